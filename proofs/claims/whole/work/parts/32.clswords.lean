set_option maxRecDepth 100000 in
theorem w104 : Cond.fieldLink "SharingRoom$PrimeField" 7 "SharingRoom$PrimeField" "size" "I" ∈ jWS := jm 104 rfl rfl
set_option maxRecDepth 100000 in
theorem w105 : Cond.sameField "SharingRoom$PrimeField" "SharingRoom$Field" "size" "I" ∈ jWS := jm 105 rfl rfl
theorem fl_Prime_7_2 : jFl "SharingRoom$PrimeField" 7 2 0 := ⟨"SharingRoom$ByteField", T_Byte, 1, "SharingRoom$PrimeField", rfl, by decide, in_Byte, w104, Or.inr w105⟩
theorem fl_Prime_7_6 : jFl "SharingRoom$PrimeField" 7 6 0 := ⟨"SharingRoom$PrimeField", T_Prime, 1, "SharingRoom$PrimeField", rfl, by decide, in_Prime, w104, Or.inr w105⟩
set_option maxRecDepth 100000 in
theorem w346 : Cond.sameMethod "SharingRoom$Field" "SharingRoom$Field" "minus" "(II)I" ∈ jWS := jm 346 rfl rfl
set_option maxRecDepth 100000 in
theorem wt345 : Cond.declares ⟨"SharingRoom$Field", "minus", "(II)I"⟩ ∈ lw_tbl := List.mem_of_getElem? (i := 345) rfl
set_option maxRecDepth 100000 in
theorem w347 : Cond.selects "SharingRoom$ByteField" ⟨"SharingRoom$Field", "minus", "(II)I"⟩ ⟨"SharingRoom$ByteField", "minus", "(II)I"⟩ ∈ jWS := jm 347 rfl rfl
set_option maxRecDepth 100000 in
theorem w348 : Cond.instanceMethod ⟨"SharingRoom$ByteField", "minus", "(II)I"⟩ ∈ jWS := jm 348 rfl rfl
set_option maxRecDepth 100000 in
theorem w349 : Cond.code ⟨"SharingRoom$ByteField", "minus", "(II)I"⟩ prog_3_method_3_code 3 (some FieldType.int) ∈ jWS := jm 349 rfl rfl
set_option maxRecDepth 100000 in
theorem w66 : Cond.initialized "SharingRoom$ByteField" ∈ jWS := jm 66 rfl rfl
theorem L0_Byte_minus : jL0 y_Byte_minus m_Byte_minus 2 := ⟨w349, w66, ⟨by decide +kernel, by decide +kernel⟩, by decide +kernel, by decide +kernel⟩
set_option maxRecDepth 100000 in
theorem w350 : Cond.selects "SharingRoom$PrimeField" ⟨"SharingRoom$Field", "minus", "(II)I"⟩ ⟨"SharingRoom$PrimeField", "minus", "(II)I"⟩ ∈ jWS := jm 350 rfl rfl
set_option maxRecDepth 100000 in
theorem w351 : Cond.instanceMethod ⟨"SharingRoom$PrimeField", "minus", "(II)I"⟩ ∈ jWS := jm 351 rfl rfl
set_option maxRecDepth 100000 in
theorem w352 : Cond.code ⟨"SharingRoom$PrimeField", "minus", "(II)I"⟩ prog_9_method_3_code 3 (some FieldType.int) ∈ jWS := jm 352 rfl rfl
set_option maxRecDepth 100000 in
theorem w65 : Cond.initialized "SharingRoom$PrimeField" ∈ jWS := jm 65 rfl rfl
theorem L0_Prime_minus : jL0 y_Prime_minus m_Prime_minus 2 := ⟨w352, w65, ⟨by decide +kernel, by decide +kernel⟩, by decide +kernel, by decide +kernel⟩
set_option maxRecDepth 100000 in
theorem w361 : Cond.sameMethod "SharingRoom$Field" "SharingRoom$Field" "times" "(II)I" ∈ jWS := jm 361 rfl rfl
set_option maxRecDepth 100000 in
theorem wt360 : Cond.declares ⟨"SharingRoom$Field", "times", "(II)I"⟩ ∈ lw_tbl := List.mem_of_getElem? (i := 360) rfl
set_option maxRecDepth 100000 in
theorem w362 : Cond.selects "SharingRoom$ByteField" ⟨"SharingRoom$Field", "times", "(II)I"⟩ ⟨"SharingRoom$ByteField", "times", "(II)I"⟩ ∈ jWS := jm 362 rfl rfl
set_option maxRecDepth 100000 in
theorem w363 : Cond.instanceMethod ⟨"SharingRoom$ByteField", "times", "(II)I"⟩ ∈ jWS := jm 363 rfl rfl
set_option maxRecDepth 100000 in
theorem w364 : Cond.code ⟨"SharingRoom$ByteField", "times", "(II)I"⟩ prog_3_method_4_code 6 (some FieldType.int) ∈ jWS := jm 364 rfl rfl
theorem L0_Byte_times : jL0 y_Byte_times m_Byte_times 2 := ⟨w364, w66, ⟨by decide +kernel, by decide +kernel⟩, by decide +kernel, by decide +kernel⟩
set_option maxRecDepth 100000 in
theorem w365 : Cond.selects "SharingRoom$PrimeField" ⟨"SharingRoom$Field", "times", "(II)I"⟩ ⟨"SharingRoom$PrimeField", "times", "(II)I"⟩ ∈ jWS := jm 365 rfl rfl
set_option maxRecDepth 100000 in
theorem w366 : Cond.instanceMethod ⟨"SharingRoom$PrimeField", "times", "(II)I"⟩ ∈ jWS := jm 366 rfl rfl
set_option maxRecDepth 100000 in
theorem w367 : Cond.code ⟨"SharingRoom$PrimeField", "times", "(II)I"⟩ prog_9_method_4_code 3 (some FieldType.int) ∈ jWS := jm 367 rfl rfl
theorem L0_Prime_times : jL0 y_Prime_times m_Prime_times 2 := ⟨w367, w65, ⟨by decide +kernel, by decide +kernel⟩, by decide +kernel, by decide +kernel⟩
set_option maxRecDepth 100000 in
theorem w103 : Cond.fieldLink "SharingRoom$Field" 7 "SharingRoom$Field" "size" "I" ∈ jWS := jm 103 rfl rfl
theorem fl_Field_7_2 : jFl "SharingRoom$Field" 7 2 0 := ⟨"SharingRoom$ByteField", T_Byte, 1, "SharingRoom$Field", rfl, by decide, in_Byte, w103, Or.inl rfl⟩
theorem fl_Field_7_6 : jFl "SharingRoom$Field" 7 6 0 := ⟨"SharingRoom$PrimeField", T_Prime, 1, "SharingRoom$Field", rfl, by decide, in_Prime, w103, Or.inl rfl⟩
set_option maxRecDepth 100000 in
theorem w359 : Cond.methodLink "SharingRoom$Field" 13 ⟨"SharingRoom$Field", "times", "(II)I"⟩ ∈ jWS := jm 359 rfl rfl
set_option maxRecDepth 100000 in
theorem w355 : Cond.sameMethod "SharingRoom$Field" "SharingRoom$Field" "inverse" "(I)I" ∈ jWS := jm 355 rfl rfl
set_option maxRecDepth 100000 in
theorem w356 : Cond.selects "SharingRoom$ByteField" ⟨"SharingRoom$Field", "inverse", "(I)I"⟩ ⟨"SharingRoom$Field", "inverse", "(I)I"⟩ ∈ jWS := jm 356 rfl rfl
set_option maxRecDepth 100000 in
theorem w354 : Cond.instanceMethod ⟨"SharingRoom$Field", "inverse", "(I)I"⟩ ∈ jWS := jm 354 rfl rfl
set_option maxRecDepth 100000 in
theorem w358 : Cond.code ⟨"SharingRoom$Field", "inverse", "(I)I"⟩ prog_5_method_6_code 5 (some FieldType.int) ∈ jWS := jm 358 rfl rfl
set_option maxRecDepth 100000 in
theorem w64 : Cond.initialized "SharingRoom$Field" ∈ jWS := jm 64 rfl rfl
theorem L0_Field_inverse : jL0 y_Field_inverse m_Field_inverse 1 := ⟨w358, w64, ⟨by decide +kernel, by decide +kernel⟩, by decide +kernel, by decide +kernel⟩
set_option maxRecDepth 100000 in
theorem w357 : Cond.selects "SharingRoom$PrimeField" ⟨"SharingRoom$Field", "inverse", "(I)I"⟩ ⟨"SharingRoom$Field", "inverse", "(I)I"⟩ ∈ jWS := jm 357 rfl rfl
set_option maxRecDepth 100000 in
theorem w127 : Cond.fieldLink "SharingRoom$Points" 13 "SharingRoom$Points" "ys" "[I" ∈ jWS := jm 127 rfl rfl
theorem fl_Points_13_5 : jFl "SharingRoom$Points" 13 5 1 := ⟨"SharingRoom$Points", T_Points, 5, "SharingRoom$Points", rfl, by decide, in_Points, w127, Or.inl rfl⟩
set_option maxRecDepth 100000 in
theorem w128 : Cond.fieldLink "SharingRoom$Points" 16 "SharingRoom$Points" "differences" "[I" ∈ jWS := jm 128 rfl rfl
theorem fl_Points_16_5 : jFl "SharingRoom$Points" 16 5 2 := ⟨"SharingRoom$Points", T_Points, 5, "SharingRoom$Points", rfl, by decide, in_Points, w128, Or.inl rfl⟩
set_option maxRecDepth 100000 in
theorem w130 : Cond.fieldLink "SharingRoom$Points" 23 "SharingRoom$Points" "count" "I" ∈ jWS := jm 130 rfl rfl
theorem fl_Points_23_5 : jFl "SharingRoom$Points" 23 5 4 := ⟨"SharingRoom$Points", T_Points, 5, "SharingRoom$Points", rfl, by decide, in_Points, w130, Or.inl rfl⟩
set_option maxRecDepth 100000 in
theorem w341 : Cond.methodLink "SharingRoom$Points" 50 ⟨"java/lang/System", "arraycopy", "(Ljava/lang/Object;ILjava/lang/Object;II)V"⟩ ∈ jWS := jm 341 rfl rfl
set_option maxRecDepth 100000 in
theorem w343 : Cond.native ⟨"java/lang/System", "arraycopy", "(Ljava/lang/Object;ILjava/lang/Object;II)V"⟩ ∈ jWS := jm 343 rfl rfl
set_option maxRecDepth 100000 in
theorem w342 : Cond.static ⟨"java/lang/System", "arraycopy", "(Ljava/lang/Object;ILjava/lang/Object;II)V"⟩ ∈ jWS := jm 342 rfl rfl
set_option maxRecDepth 100000 in
theorem w81 : Cond.initialized "java/lang/System" ∈ jWS := jm 81 rfl rfl
set_option maxRecDepth 100000 in
theorem w129 : Cond.fieldLink "SharingRoom$Points" 19 "SharingRoom$Points" "field" "LSharingRoom$Field;" ∈ jWS := jm 129 rfl rfl
theorem fl_Points_19_5 : jFl "SharingRoom$Points" 19 5 3 := ⟨"SharingRoom$Points", T_Points, 5, "SharingRoom$Points", rfl, by decide, in_Points, w129, Or.inl rfl⟩
set_option maxRecDepth 100000 in
theorem w344 : Cond.methodLink "SharingRoom$Points" 43 ⟨"SharingRoom$Field", "minus", "(II)I"⟩ ∈ jWS := jm 344 rfl rfl
set_option maxRecDepth 100000 in
theorem w126 : Cond.fieldLink "SharingRoom$Points" 9 "SharingRoom$Points" "xs" "[I" ∈ jWS := jm 126 rfl rfl
theorem fl_Points_9_5 : jFl "SharingRoom$Points" 9 5 0 := ⟨"SharingRoom$Points", T_Points, 5, "SharingRoom$Points", rfl, by decide, in_Points, w126, Or.inl rfl⟩
set_option maxRecDepth 100000 in
theorem w353 : Cond.methodLink "SharingRoom$Points" 46 ⟨"SharingRoom$Field", "inverse", "(I)I"⟩ ∈ jWS := jm 353 rfl rfl
set_option maxRecDepth 100000 in
theorem w368 : Cond.methodLink "SharingRoom$Points" 37 ⟨"SharingRoom$Field", "times", "(II)I"⟩ ∈ jWS := jm 368 rfl rfl
set_option maxRecDepth 100000 in
theorem w324 : Cond.fieldLink "SharingRoom" 28 "SharingRoom" "points" "LSharingRoom$Points;" ∈ jWS := jm 324 rfl rfl
theorem fl_SR_28_0 : jFl "SharingRoom" 28 0 1 := ⟨"SharingRoom", T_SR, 3, "SharingRoom", rfl, by decide, in_SR, w324, Or.inl rfl⟩
set_option maxRecDepth 100000 in
theorem w337 : Cond.methodLink "SharingRoom" 91 ⟨"SharingRoom$Points", "countCoefficients", "()I"⟩ ∈ jWS := jm 337 rfl rfl
set_option maxRecDepth 100000 in
theorem w340 : Cond.code ⟨"SharingRoom$Points", "countCoefficients", "()I"⟩ prog_8_method_10_code 5 (some FieldType.int) ∈ jWS := jm 340 rfl rfl
set_option maxRecDepth 100000 in
theorem w67 : Cond.initialized "SharingRoom$Points" ∈ jWS := jm 67 rfl rfl
theorem L0_Points_countCoefficients : jL0 y_Points_countCoefficients m_Points_countCoefficients 0 := ⟨w340, w67, ⟨by decide +kernel, by decide +kernel⟩, by decide +kernel, by decide +kernel⟩
set_option maxRecDepth 100000 in
theorem w338 : Cond.instanceMethod ⟨"SharingRoom$Points", "countCoefficients", "()I"⟩ ∈ jWS := jm 338 rfl rfl
set_option maxRecDepth 100000 in
theorem w339 : Cond.selects "SharingRoom$Points" ⟨"SharingRoom$Points", "countCoefficients", "()I"⟩ ⟨"SharingRoom$Points", "countCoefficients", "()I"⟩ ∈ jWS := jm 339 rfl rfl
set_option maxRecDepth 100000 in
theorem w286 : Cond.fieldLink "SharingRoom$Room" 72 "SharingRoom$Room" "stage" "I" ∈ jWS := jm 286 rfl rfl
theorem fl_Room_72_7 : jFl "SharingRoom$Room" 72 7 9 := ⟨"SharingRoom$Room", T_Room, 15, "SharingRoom$Room", rfl, by decide, in_Room, w286, Or.inl rfl⟩
set_option maxRecDepth 100000 in
theorem w325 : Cond.fieldLink "SharingRoom" 43 "SharingRoom" "room" "LSharingRoom$Room;" ∈ jWS := jm 325 rfl rfl
theorem fl_SR_43_0 : jFl "SharingRoom" 43 0 2 := ⟨"SharingRoom", T_SR, 3, "SharingRoom", rfl, by decide, in_SR, w325, Or.inl rfl⟩
set_option maxRecDepth 100000 in
theorem w373 : Cond.methodLink "SharingRoom" 145 ⟨"SharingRoom$Room", "stage", "()I"⟩ ∈ jWS := jm 373 rfl rfl
set_option maxRecDepth 100000 in
theorem w376 : Cond.code ⟨"SharingRoom$Room", "stage", "()I"⟩ prog_10_method_13_code 1 (some FieldType.int) ∈ jWS := jm 376 rfl rfl
set_option maxRecDepth 100000 in
theorem w68 : Cond.initialized "SharingRoom$Room" ∈ jWS := jm 68 rfl rfl
theorem L0_Room_stage : jL0 y_Room_stage m_Room_stage 0 := ⟨w376, w68, ⟨by decide +kernel, by decide +kernel⟩, by decide +kernel, by decide +kernel⟩
set_option maxRecDepth 100000 in
theorem w374 : Cond.instanceMethod ⟨"SharingRoom$Room", "stage", "()I"⟩ ∈ jWS := jm 374 rfl rfl
set_option maxRecDepth 100000 in
theorem w375 : Cond.selects "SharingRoom$Room" ⟨"SharingRoom$Room", "stage", "()I"⟩ ⟨"SharingRoom$Room", "stage", "()I"⟩ ∈ jWS := jm 375 rfl rfl
set_option maxRecDepth 100000 in
theorem w284 : Cond.fieldLink "SharingRoom$Room" 55 "SharingRoom$Room" "n" "I" ∈ jWS := jm 284 rfl rfl
theorem fl_Room_55_7 : jFl "SharingRoom$Room" 55 7 7 := ⟨"SharingRoom$Room", T_Room, 15, "SharingRoom$Room", rfl, by decide, in_Room, w284, Or.inl rfl⟩
set_option maxRecDepth 100000 in
theorem w288 : Cond.fieldLink "SharingRoom$Room" 78 "SharingRoom$Room" "qualified" "I" ∈ jWS := jm 288 rfl rfl
theorem fl_Room_78_7 : jFl "SharingRoom$Room" 78 7 11 := ⟨"SharingRoom$Room", T_Room, 15, "SharingRoom$Room", rfl, by decide, in_Room, w288, Or.inl rfl⟩
set_option maxRecDepth 100000 in
theorem w385 : Cond.methodLink "SharingRoom$Room" 62 ⟨"SharingRoom$Room", "everybody", "()I"⟩ ∈ jWS := jm 385 rfl rfl
set_option maxRecDepth 100000 in
theorem w388 : Cond.code ⟨"SharingRoom$Room", "everybody", "()I"⟩ prog_10_method_52_code 1 (some FieldType.int) ∈ jWS := jm 388 rfl rfl
theorem L0_Room_everybody : jL0 y_Room_everybody m_Room_everybody 0 := ⟨w388, w68, ⟨by decide +kernel, by decide +kernel⟩, by decide +kernel, by decide +kernel⟩
set_option maxRecDepth 100000 in
theorem w387 : Cond.instanceMethod ⟨"SharingRoom$Room", "everybody", "()I"⟩ ∈ jWS := jm 387 rfl rfl
set_option maxRecDepth 100000 in
theorem w0 : Cond.selects "SharingRoom$Room" ⟨"SharingRoom$Room", "everybody", "()I"⟩ ⟨"SharingRoom$Room", "everybody", "()I"⟩ ∈ jWS := jm 0 rfl rfl
set_option maxRecDepth 100000 in
theorem w289 : Cond.fieldLink "SharingRoom$Room" 81 "SharingRoom$Room" "accused" "I" ∈ jWS := jm 289 rfl rfl
theorem fl_Room_81_7 : jFl "SharingRoom$Room" 81 7 12 := ⟨"SharingRoom$Room", T_Room, 15, "SharingRoom$Room", rfl, by decide, in_Room, w289, Or.inl rfl⟩
set_option maxRecDepth 100000 in
theorem w290 : Cond.fieldLink "SharingRoom$Room" 84 "SharingRoom$Room" "opened" "I" ∈ jWS := jm 290 rfl rfl
theorem fl_Room_84_7 : jFl "SharingRoom$Room" 84 7 13 := ⟨"SharingRoom$Room", T_Room, 15, "SharingRoom$Room", rfl, by decide, in_Room, w290, Or.inl rfl⟩
set_option maxRecDepth 100000 in
theorem w278 : Cond.fieldLink "SharingRoom$Room" 11 "SharingRoom$Room" "seats" "[LSharingRoom$Party;" ∈ jWS := jm 278 rfl rfl
theorem fl_Room_11_7 : jFl "SharingRoom$Room" 11 7 1 := ⟨"SharingRoom$Room", T_Room, 15, "SharingRoom$Room", rfl, by decide, in_Room, w278, Or.inl rfl⟩
set_option maxRecDepth 100000 in
theorem w248 : Cond.fieldLink "SharingRoom$Party" 52 "SharingRoom$Party" "crashRound" "I" ∈ jWS := jm 248 rfl rfl
theorem fl_Party_52_4 : jFl "SharingRoom$Party" 52 4 6 := ⟨"SharingRoom$Party", T_Party, 10, "SharingRoom$Party", rfl, by decide, in_Party, w248, Or.inl rfl⟩
set_option maxRecDepth 100000 in
theorem w401 : Cond.methodLink "SharingRoom$Room" 96 ⟨"SharingRoom$Room", "party", "(I)LSharingRoom$Party;"⟩ ∈ jWS := jm 401 rfl rfl
set_option maxRecDepth 100000 in
theorem w404 : Cond.code ⟨"SharingRoom$Room", "party", "(I)LSharingRoom$Party;"⟩ prog_10_method_53_code 2 (some (FieldType.object "SharingRoom$Party")) ∈ jWS := jm 404 rfl rfl
theorem L0_Room_party : jL0 y_Room_party m_Room_party 1 := ⟨w404, w68, ⟨by decide +kernel, by decide +kernel⟩, by decide +kernel, by decide +kernel⟩
set_option maxRecDepth 100000 in
theorem w403 : Cond.instanceMethod ⟨"SharingRoom$Room", "party", "(I)LSharingRoom$Party;"⟩ ∈ jWS := jm 403 rfl rfl
set_option maxRecDepth 100000 in
theorem w1 : Cond.selects "SharingRoom$Room" ⟨"SharingRoom$Room", "party", "(I)LSharingRoom$Party;"⟩ ⟨"SharingRoom$Room", "party", "(I)LSharingRoom$Party;"⟩ ∈ jWS := jm 1 rfl rfl
set_option maxRecDepth 100000 in
theorem w409 : Cond.methodLink "SharingRoom$Room" 126 ⟨"SharingRoom$Party", "neverCrashes", "()Z"⟩ ∈ jWS := jm 409 rfl rfl
set_option maxRecDepth 100000 in
theorem w412 : Cond.code ⟨"SharingRoom$Party", "neverCrashes", "()Z"⟩ prog_7_method_6_code 1 (some FieldType.boolean) ∈ jWS := jm 412 rfl rfl
set_option maxRecDepth 100000 in
theorem w74 : Cond.initialized "SharingRoom$Party" ∈ jWS := jm 74 rfl rfl
theorem L0_Party_neverCrashes : jL0 y_Party_neverCrashes m_Party_neverCrashes 0 := ⟨w412, w74, ⟨by decide +kernel, by decide +kernel⟩, by decide +kernel, by decide +kernel⟩
set_option maxRecDepth 100000 in
theorem w410 : Cond.instanceMethod ⟨"SharingRoom$Party", "neverCrashes", "()Z"⟩ ∈ jWS := jm 410 rfl rfl
set_option maxRecDepth 100000 in
theorem w411 : Cond.selects "SharingRoom$Party" ⟨"SharingRoom$Party", "neverCrashes", "()Z"⟩ ⟨"SharingRoom$Party", "neverCrashes", "()Z"⟩ ∈ jWS := jm 411 rfl rfl
set_option maxRecDepth 100000 in
theorem w287 : Cond.fieldLink "SharingRoom$Room" 75 "SharingRoom$Room" "round" "I" ∈ jWS := jm 287 rfl rfl
theorem fl_Room_75_7 : jFl "SharingRoom$Room" 75 7 10 := ⟨"SharingRoom$Room", T_Room, 15, "SharingRoom$Room", rfl, by decide, in_Room, w287, Or.inl rfl⟩
set_option maxRecDepth 100000 in
theorem w405 : Cond.methodLink "SharingRoom$Room" 122 ⟨"SharingRoom$Party", "worksIn", "(I)Z"⟩ ∈ jWS := jm 405 rfl rfl
set_option maxRecDepth 100000 in
theorem w408 : Cond.code ⟨"SharingRoom$Party", "worksIn", "(I)Z"⟩ prog_7_method_5_code 2 (some FieldType.boolean) ∈ jWS := jm 408 rfl rfl
theorem L0_Party_worksIn : jL0 y_Party_worksIn m_Party_worksIn 1 := ⟨w408, w74, ⟨by decide +kernel, by decide +kernel⟩, by decide +kernel, by decide +kernel⟩
set_option maxRecDepth 100000 in
theorem w406 : Cond.instanceMethod ⟨"SharingRoom$Party", "worksIn", "(I)Z"⟩ ∈ jWS := jm 406 rfl rfl
set_option maxRecDepth 100000 in
theorem w407 : Cond.selects "SharingRoom$Party" ⟨"SharingRoom$Party", "worksIn", "(I)Z"⟩ ⟨"SharingRoom$Party", "worksIn", "(I)Z"⟩ ∈ jWS := jm 407 rfl rfl
set_option maxRecDepth 100000 in
theorem wt413 : Cond.methodLinkNest "SharingRoom$Room" 130 ⟨"SharingRoom", "bit", "(I)I"⟩ "SharingRoom" ∈ lw_tbl := List.mem_of_getElem? (i := 413) rfl
set_option maxRecDepth 100000 in
theorem w415 : Cond.code ⟨"SharingRoom", "bit", "(I)I"⟩ prog_1_method_30_code 1 (some FieldType.int) ∈ jWS := jm 415 rfl rfl
set_option maxRecDepth 100000 in
theorem w63 : Cond.initialized "SharingRoom" ∈ jWS := jm 63 rfl rfl
theorem L0_SR_bit : jL0 y_SR_bit m_SR_bit 1 := ⟨w415, w63, ⟨by decide +kernel, by decide +kernel⟩, by decide +kernel, by decide +kernel⟩
set_option maxRecDepth 100000 in
theorem w414 : Cond.static ⟨"SharingRoom", "bit", "(I)I"⟩ ∈ jWS := jm 414 rfl rfl
set_option maxRecDepth 100000 in
theorem w381 : Cond.methodLink "SharingRoom" 153 ⟨"SharingRoom$Room", "qualifiedBits", "()I"⟩ ∈ jWS := jm 381 rfl rfl
set_option maxRecDepth 100000 in
theorem w384 : Cond.code ⟨"SharingRoom$Room", "qualifiedBits", "()I"⟩ prog_10_method_16_code 1 (some FieldType.int) ∈ jWS := jm 384 rfl rfl
theorem L0_Room_qualifiedBits : jL0 y_Room_qualifiedBits m_Room_qualifiedBits 0 := ⟨w384, w68, ⟨by decide +kernel, by decide +kernel⟩, by decide +kernel, by decide +kernel⟩
set_option maxRecDepth 100000 in
theorem w382 : Cond.instanceMethod ⟨"SharingRoom$Room", "qualifiedBits", "()I"⟩ ∈ jWS := jm 382 rfl rfl
set_option maxRecDepth 100000 in
theorem w383 : Cond.selects "SharingRoom$Room" ⟨"SharingRoom$Room", "qualifiedBits", "()I"⟩ ⟨"SharingRoom$Room", "qualifiedBits", "()I"⟩ ∈ jWS := jm 383 rfl rfl
set_option maxRecDepth 100000 in
theorem w389 : Cond.methodLink "SharingRoom" 156 ⟨"SharingRoom$Room", "accusedBits", "()I"⟩ ∈ jWS := jm 389 rfl rfl
set_option maxRecDepth 100000 in
theorem w392 : Cond.code ⟨"SharingRoom$Room", "accusedBits", "()I"⟩ prog_10_method_17_code 1 (some FieldType.int) ∈ jWS := jm 392 rfl rfl
theorem L0_Room_accusedBits : jL0 y_Room_accusedBits m_Room_accusedBits 0 := ⟨w392, w68, ⟨by decide +kernel, by decide +kernel⟩, by decide +kernel, by decide +kernel⟩
set_option maxRecDepth 100000 in
theorem w390 : Cond.instanceMethod ⟨"SharingRoom$Room", "accusedBits", "()I"⟩ ∈ jWS := jm 390 rfl rfl
set_option maxRecDepth 100000 in
theorem w391 : Cond.selects "SharingRoom$Room" ⟨"SharingRoom$Room", "accusedBits", "()I"⟩ ⟨"SharingRoom$Room", "accusedBits", "()I"⟩ ∈ jWS := jm 391 rfl rfl
set_option maxRecDepth 100000 in
theorem w393 : Cond.methodLink "SharingRoom" 159 ⟨"SharingRoom$Room", "openedBits", "()I"⟩ ∈ jWS := jm 393 rfl rfl
set_option maxRecDepth 100000 in
theorem w396 : Cond.code ⟨"SharingRoom$Room", "openedBits", "()I"⟩ prog_10_method_18_code 1 (some FieldType.int) ∈ jWS := jm 396 rfl rfl
theorem L0_Room_openedBits : jL0 y_Room_openedBits m_Room_openedBits 0 := ⟨w396, w68, ⟨by decide +kernel, by decide +kernel⟩, by decide +kernel, by decide +kernel⟩
set_option maxRecDepth 100000 in
theorem w394 : Cond.instanceMethod ⟨"SharingRoom$Room", "openedBits", "()I"⟩ ∈ jWS := jm 394 rfl rfl
set_option maxRecDepth 100000 in
theorem w395 : Cond.selects "SharingRoom$Room" ⟨"SharingRoom$Room", "openedBits", "()I"⟩ ⟨"SharingRoom$Room", "openedBits", "()I"⟩ ∈ jWS := jm 395 rfl rfl
set_option maxRecDepth 100000 in
theorem w397 : Cond.methodLink "SharingRoom" 162 ⟨"SharingRoom$Room", "workingBits", "()I"⟩ ∈ jWS := jm 397 rfl rfl
set_option maxRecDepth 100000 in
theorem w400 : Cond.code ⟨"SharingRoom$Room", "workingBits", "()I"⟩ prog_10_method_19_code 4 (some FieldType.int) ∈ jWS := jm 400 rfl rfl
theorem L0_Room_workingBits : jL0 y_Room_workingBits m_Room_workingBits 0 := ⟨w400, w68, ⟨by decide +kernel, by decide +kernel⟩, by decide +kernel, by decide +kernel⟩
set_option maxRecDepth 100000 in
theorem w398 : Cond.instanceMethod ⟨"SharingRoom$Room", "workingBits", "()I"⟩ ∈ jWS := jm 398 rfl rfl
set_option maxRecDepth 100000 in
theorem w399 : Cond.selects "SharingRoom$Room" ⟨"SharingRoom$Room", "workingBits", "()I"⟩ ⟨"SharingRoom$Room", "workingBits", "()I"⟩ ∈ jWS := jm 399 rfl rfl
set_option maxRecDepth 100000 in
theorem w279 : Cond.fieldLink "SharingRoom$Room" 20 "SharingRoom$Room" "board" "LSharingRoom$Board;" ∈ jWS := jm 279 rfl rfl
theorem fl_Room_20_7 : jFl "SharingRoom$Room" 20 7 2 := ⟨"SharingRoom$Room", T_Room, 15, "SharingRoom$Room", rfl, by decide, in_Room, w279, Or.inl rfl⟩
set_option maxRecDepth 100000 in
theorem w217 : Cond.fieldLink "SharingRoom$Board" 20 "SharingRoom$Board" "size" "I" ∈ jWS := jm 217 rfl rfl
theorem fl_Board_20_1 : jFl "SharingRoom$Board" 20 1 2 := ⟨"SharingRoom$Board", T_Board, 3, "SharingRoom$Board", rfl, by decide, in_Board, w217, Or.inl rfl⟩
set_option maxRecDepth 100000 in
theorem w420 : Cond.methodLink "SharingRoom" 179 ⟨"SharingRoom$Room", "shownToAll", "()LSharingRoom$Board;"⟩ ∈ jWS := jm 420 rfl rfl
set_option maxRecDepth 100000 in
theorem w423 : Cond.code ⟨"SharingRoom$Room", "shownToAll", "()LSharingRoom$Board;"⟩ prog_10_method_14_code 1 (some (FieldType.object "SharingRoom$Board")) ∈ jWS := jm 423 rfl rfl
theorem L0_Room_shownToAll : jL0 y_Room_shownToAll m_Room_shownToAll 0 := ⟨w423, w68, ⟨by decide +kernel, by decide +kernel⟩, by decide +kernel, by decide +kernel⟩
set_option maxRecDepth 100000 in
theorem w421 : Cond.instanceMethod ⟨"SharingRoom$Room", "shownToAll", "()LSharingRoom$Board;"⟩ ∈ jWS := jm 421 rfl rfl
set_option maxRecDepth 100000 in
theorem w422 : Cond.selects "SharingRoom$Room" ⟨"SharingRoom$Room", "shownToAll", "()LSharingRoom$Board;"⟩ ⟨"SharingRoom$Room", "shownToAll", "()LSharingRoom$Board;"⟩ ∈ jWS := jm 422 rfl rfl
set_option maxRecDepth 100000 in
theorem w424 : Cond.methodLink "SharingRoom" 183 ⟨"SharingRoom$Board", "size", "()I"⟩ ∈ jWS := jm 424 rfl rfl
set_option maxRecDepth 100000 in
theorem w427 : Cond.code ⟨"SharingRoom$Board", "size", "()I"⟩ prog_2_method_3_code 1 (some FieldType.int) ∈ jWS := jm 427 rfl rfl
set_option maxRecDepth 100000 in
theorem w72 : Cond.initialized "SharingRoom$Board" ∈ jWS := jm 72 rfl rfl
theorem L0_Board_size : jL0 y_Board_size m_Board_size 0 := ⟨w427, w72, ⟨by decide +kernel, by decide +kernel⟩, by decide +kernel, by decide +kernel⟩
set_option maxRecDepth 100000 in
theorem w425 : Cond.instanceMethod ⟨"SharingRoom$Board", "size", "()I"⟩ ∈ jWS := jm 425 rfl rfl
set_option maxRecDepth 100000 in
theorem w426 : Cond.selects "SharingRoom$Board" ⟨"SharingRoom$Board", "size", "()I"⟩ ⟨"SharingRoom$Board", "size", "()I"⟩ ∈ jWS := jm 426 rfl rfl
set_option maxRecDepth 100000 in
theorem w291 : Cond.fieldLink "SharingRoom$Room" 90 "SharingRoom$Room" "key" "I" ∈ jWS := jm 291 rfl rfl
theorem fl_Room_90_7 : jFl "SharingRoom$Room" 90 7 14 := ⟨"SharingRoom$Room", T_Room, 15, "SharingRoom$Room", rfl, by decide, in_Room, w291, Or.inl rfl⟩
set_option maxRecDepth 100000 in
theorem w432 : Cond.methodLink "SharingRoom" 201 ⟨"SharingRoom$Room", "commonKey", "()I"⟩ ∈ jWS := jm 432 rfl rfl
set_option maxRecDepth 100000 in
theorem w435 : Cond.code ⟨"SharingRoom$Room", "commonKey", "()I"⟩ prog_10_method_15_code 1 (some FieldType.int) ∈ jWS := jm 435 rfl rfl
theorem L0_Room_commonKey : jL0 y_Room_commonKey m_Room_commonKey 0 := ⟨w435, w68, ⟨by decide +kernel, by decide +kernel⟩, by decide +kernel, by decide +kernel⟩
set_option maxRecDepth 100000 in
theorem w433 : Cond.instanceMethod ⟨"SharingRoom$Room", "commonKey", "()I"⟩ ∈ jWS := jm 433 rfl rfl
set_option maxRecDepth 100000 in
theorem w434 : Cond.selects "SharingRoom$Room" ⟨"SharingRoom$Room", "commonKey", "()I"⟩ ⟨"SharingRoom$Room", "commonKey", "()I"⟩ ∈ jWS := jm 434 rfl rfl
theorem fp_Points_19_5 (nm : String) : jFp "SharingRoom$Points" nm 19 5 3 (.object "SharingRoom$Field") := ⟨fl_Points_19_5, "SharingRoom$Points", T_Points, 5, ty_Points, rfl, tk_Points, nm_Points, rfl, Or.inl rfl⟩
theorem fp_Points_23_5 (nm : String) : jFp "SharingRoom$Points" nm 23 5 4 (.int) := ⟨fl_Points_23_5, "SharingRoom$Points", T_Points, 5, ty_Points, rfl, tk_Points, nm_Points, rfl, Or.inl rfl⟩
set_option maxRecDepth 100000 in
theorem ex_SR_51 : jEx "SharingRoom" 51 "java/lang/IllegalArgumentException" := by
  unfold jEx
  decide +kernel
theorem fit_IllegalArgumentException : Bundle.fit "java/lang/IllegalArgumentException" = true := by decide +kernel
set_option maxRecDepth 100000 in
theorem wt444 : Cond.classLink "SharingRoom" 47 "java/lang/IllegalArgumentException" ∈ lw_tbl := List.mem_of_getElem? (i := 444) rfl
set_option maxRecDepth 100000 in
theorem wt445 : Cond.instantiable "java/lang/IllegalArgumentException" 6 ∈ lw_tbl := List.mem_of_getElem? (i := 445) rfl
set_option maxRecDepth 100000 in
theorem wt79 : Cond.initialized "java/lang/IllegalArgumentException" ∈ lw_tbl := List.mem_of_getElem? (i := 79) rfl
set_option maxRecDepth 100000 in
theorem wt485 : Cond.stringRef "SharingRoom" 49 "no such field" ∈ lw_tbl := List.mem_of_getElem? (i := 485) rfl
set_option maxRecDepth 100000 in
theorem w323 : Cond.fieldLink "SharingRoom" 17 "SharingRoom" "fields" "[LSharingRoom$Field;" ∈ jWS := jm 323 rfl rfl
theorem fl_SR_17_0 : jFl "SharingRoom" 17 0 0 := ⟨"SharingRoom", T_SR, 3, "SharingRoom", rfl, by decide, in_SR, w323, Or.inl rfl⟩
set_option maxRecDepth 100000 in
theorem w511 : Cond.methodLink "SharingRoom" 54 ⟨"SharingRoom$Points", "clear", "(LSharingRoom$Field;)V"⟩ ∈ jWS := jm 511 rfl rfl
set_option maxRecDepth 100000 in
theorem w514 : Cond.code ⟨"SharingRoom$Points", "clear", "(LSharingRoom$Field;)V"⟩ prog_8_method_2_code 2 none ∈ jWS := jm 514 rfl rfl
theorem L0_Points_clear : jL0 y_Points_clear m_Points_clear 1 := ⟨w514, w67, ⟨by decide +kernel, by decide +kernel⟩, by decide +kernel, by decide +kernel⟩
set_option maxRecDepth 100000 in
theorem w512 : Cond.instanceMethod ⟨"SharingRoom$Points", "clear", "(LSharingRoom$Field;)V"⟩ ∈ jWS := jm 512 rfl rfl
set_option maxRecDepth 100000 in
theorem w513 : Cond.selects "SharingRoom$Points" ⟨"SharingRoom$Points", "clear", "(LSharingRoom$Field;)V"⟩ ⟨"SharingRoom$Points", "clear", "(LSharingRoom$Field;)V"⟩ ∈ jWS := jm 513 rfl rfl
set_option maxRecDepth 100000 in
theorem w529 : Cond.sameMethod "SharingRoom$Field" "SharingRoom$Field" "has" "(I)Z" ∈ jWS := jm 529 rfl rfl
set_option maxRecDepth 100000 in
theorem w530 : Cond.selects "SharingRoom$ByteField" ⟨"SharingRoom$Field", "has", "(I)Z"⟩ ⟨"SharingRoom$Field", "has", "(I)Z"⟩ ∈ jWS := jm 530 rfl rfl
set_option maxRecDepth 100000 in
theorem w528 : Cond.instanceMethod ⟨"SharingRoom$Field", "has", "(I)Z"⟩ ∈ jWS := jm 528 rfl rfl
set_option maxRecDepth 100000 in
theorem w532 : Cond.code ⟨"SharingRoom$Field", "has", "(I)Z"⟩ prog_5_method_5_code 2 (some FieldType.boolean) ∈ jWS := jm 532 rfl rfl
theorem L0_Field_has : jL0 y_Field_has m_Field_has 1 := ⟨w532, w64, ⟨by decide +kernel, by decide +kernel⟩, by decide +kernel, by decide +kernel⟩
set_option maxRecDepth 100000 in
theorem w531 : Cond.selects "SharingRoom$PrimeField" ⟨"SharingRoom$Field", "has", "(I)Z"⟩ ⟨"SharingRoom$Field", "has", "(I)Z"⟩ ∈ jWS := jm 531 rfl rfl
set_option maxRecDepth 100000 in
theorem w527 : Cond.methodLink "SharingRoom$Points" 27 ⟨"SharingRoom$Field", "has", "(I)Z"⟩ ∈ jWS := jm 527 rfl rfl
set_option maxRecDepth 100000 in
theorem wt533 : Cond.stringRef "SharingRoom" 61 "no such point" ∈ lw_tbl := List.mem_of_getElem? (i := 533) rfl
set_option maxRecDepth 100000 in
theorem w523 : Cond.methodLink "SharingRoom" 57 ⟨"SharingRoom$Points", "inField", "(I)Z"⟩ ∈ jWS := jm 523 rfl rfl
set_option maxRecDepth 100000 in
theorem w526 : Cond.code ⟨"SharingRoom$Points", "inField", "(I)Z"⟩ prog_8_method_5_code 2 (some FieldType.boolean) ∈ jWS := jm 526 rfl rfl
theorem L0_Points_inField : jL0 y_Points_inField m_Points_inField 1 := ⟨w526, w67, ⟨by decide +kernel, by decide +kernel⟩, by decide +kernel, by decide +kernel⟩
set_option maxRecDepth 100000 in
theorem w524 : Cond.instanceMethod ⟨"SharingRoom$Points", "inField", "(I)Z"⟩ ∈ jWS := jm 524 rfl rfl
set_option maxRecDepth 100000 in
theorem w525 : Cond.selects "SharingRoom$Points" ⟨"SharingRoom$Points", "inField", "(I)Z"⟩ ⟨"SharingRoom$Points", "inField", "(I)Z"⟩ ∈ jWS := jm 525 rfl rfl
set_option maxRecDepth 100000 in
theorem w534 : Cond.methodLink "SharingRoom" 63 ⟨"SharingRoom$Points", "hasAt", "(I)Z"⟩ ∈ jWS := jm 534 rfl rfl
set_option maxRecDepth 100000 in
theorem w537 : Cond.code ⟨"SharingRoom$Points", "hasAt", "(I)Z"⟩ prog_8_method_6_code 3 (some FieldType.boolean) ∈ jWS := jm 537 rfl rfl
theorem L0_Points_hasAt : jL0 y_Points_hasAt m_Points_hasAt 1 := ⟨w537, w67, ⟨by decide +kernel, by decide +kernel⟩, by decide +kernel, by decide +kernel⟩
set_option maxRecDepth 100000 in
theorem w535 : Cond.instanceMethod ⟨"SharingRoom$Points", "hasAt", "(I)Z"⟩ ∈ jWS := jm 535 rfl rfl
set_option maxRecDepth 100000 in
theorem w536 : Cond.selects "SharingRoom$Points" ⟨"SharingRoom$Points", "hasAt", "(I)Z"⟩ ⟨"SharingRoom$Points", "hasAt", "(I)Z"⟩ ∈ jWS := jm 536 rfl rfl
set_option maxRecDepth 100000 in
theorem ex_SR_74 : jEx "SharingRoom" 74 "java/lang/IllegalStateException" := by
  unfold jEx
  decide +kernel
theorem fit_IllegalStateException : Bundle.fit "java/lang/IllegalStateException" = true := by decide +kernel
set_option maxRecDepth 100000 in
theorem wt542 : Cond.classLink "SharingRoom" 70 "java/lang/IllegalStateException" ∈ lw_tbl := List.mem_of_getElem? (i := 542) rfl
set_option maxRecDepth 100000 in
theorem wt543 : Cond.instantiable "java/lang/IllegalStateException" 6 ∈ lw_tbl := List.mem_of_getElem? (i := 543) rfl
set_option maxRecDepth 100000 in
theorem wt80 : Cond.initialized "java/lang/IllegalStateException" ∈ lw_tbl := List.mem_of_getElem? (i := 80) rfl
set_option maxRecDepth 100000 in
theorem wt551 : Cond.stringRef "SharingRoom" 72 "no room for this point" ∈ lw_tbl := List.mem_of_getElem? (i := 551) rfl
set_option maxRecDepth 100000 in
theorem w538 : Cond.methodLink "SharingRoom" 66 ⟨"SharingRoom$Points", "isFull", "()Z"⟩ ∈ jWS := jm 538 rfl rfl
set_option maxRecDepth 100000 in
theorem w541 : Cond.code ⟨"SharingRoom$Points", "isFull", "()Z"⟩ prog_8_method_4_code 1 (some FieldType.boolean) ∈ jWS := jm 541 rfl rfl
theorem L0_Points_isFull : jL0 y_Points_isFull m_Points_isFull 0 := ⟨w541, w67, ⟨by decide +kernel, by decide +kernel⟩, by decide +kernel, by decide +kernel⟩
set_option maxRecDepth 100000 in
theorem w539 : Cond.instanceMethod ⟨"SharingRoom$Points", "isFull", "()Z"⟩ ∈ jWS := jm 539 rfl rfl
set_option maxRecDepth 100000 in
theorem w540 : Cond.selects "SharingRoom$Points" ⟨"SharingRoom$Points", "isFull", "()Z"⟩ ⟨"SharingRoom$Points", "isFull", "()Z"⟩ ∈ jWS := jm 540 rfl rfl
set_option maxRecDepth 100000 in
theorem w558 : Cond.methodLink "SharingRoom" 75 ⟨"SharingRoom$Points", "add", "(II)V"⟩ ∈ jWS := jm 558 rfl rfl
set_option maxRecDepth 100000 in
theorem w561 : Cond.code ⟨"SharingRoom$Points", "add", "(II)V"⟩ prog_8_method_7_code 3 none ∈ jWS := jm 561 rfl rfl
theorem L0_Points_add : jL0 y_Points_add m_Points_add 2 := ⟨w561, w67, ⟨by decide +kernel, by decide +kernel⟩, by decide +kernel, by decide +kernel⟩
set_option maxRecDepth 100000 in
theorem w559 : Cond.instanceMethod ⟨"SharingRoom$Points", "add", "(II)V"⟩ ∈ jWS := jm 559 rfl rfl
set_option maxRecDepth 100000 in
theorem w560 : Cond.selects "SharingRoom$Points" ⟨"SharingRoom$Points", "add", "(II)V"⟩ ⟨"SharingRoom$Points", "add", "(II)V"⟩ ∈ jWS := jm 560 rfl rfl
set_option maxRecDepth 100000 in
theorem w562 : Cond.methodLink "SharingRoom" 79 ⟨"SharingRoom$Points", "size", "()I"⟩ ∈ jWS := jm 562 rfl rfl
set_option maxRecDepth 100000 in
theorem w565 : Cond.code ⟨"SharingRoom$Points", "size", "()I"⟩ prog_8_method_3_code 1 (some FieldType.int) ∈ jWS := jm 565 rfl rfl
theorem L0_Points_size : jL0 y_Points_size m_Points_size 0 := ⟨w565, w67, ⟨by decide +kernel, by decide +kernel⟩, by decide +kernel, by decide +kernel⟩
set_option maxRecDepth 100000 in
theorem w563 : Cond.instanceMethod ⟨"SharingRoom$Points", "size", "()I"⟩ ∈ jWS := jm 563 rfl rfl
set_option maxRecDepth 100000 in
theorem w564 : Cond.selects "SharingRoom$Points" ⟨"SharingRoom$Points", "size", "()I"⟩ ⟨"SharingRoom$Points", "size", "()I"⟩ ∈ jWS := jm 564 rfl rfl
set_option maxRecDepth 100000 in
theorem w585 : Cond.sameMethod "SharingRoom$Field" "SharingRoom$Field" "plus" "(II)I" ∈ jWS := jm 585 rfl rfl
set_option maxRecDepth 100000 in
theorem wt584 : Cond.declares ⟨"SharingRoom$Field", "plus", "(II)I"⟩ ∈ lw_tbl := List.mem_of_getElem? (i := 584) rfl
set_option maxRecDepth 100000 in
theorem w586 : Cond.selects "SharingRoom$ByteField" ⟨"SharingRoom$Field", "plus", "(II)I"⟩ ⟨"SharingRoom$ByteField", "plus", "(II)I"⟩ ∈ jWS := jm 586 rfl rfl
set_option maxRecDepth 100000 in
theorem w587 : Cond.instanceMethod ⟨"SharingRoom$ByteField", "plus", "(II)I"⟩ ∈ jWS := jm 587 rfl rfl
set_option maxRecDepth 100000 in
theorem w588 : Cond.code ⟨"SharingRoom$ByteField", "plus", "(II)I"⟩ prog_3_method_2_code 3 (some FieldType.int) ∈ jWS := jm 588 rfl rfl
theorem L0_Byte_plus : jL0 y_Byte_plus m_Byte_plus 2 := ⟨w588, w66, ⟨by decide +kernel, by decide +kernel⟩, by decide +kernel, by decide +kernel⟩
set_option maxRecDepth 100000 in
theorem w589 : Cond.selects "SharingRoom$PrimeField" ⟨"SharingRoom$Field", "plus", "(II)I"⟩ ⟨"SharingRoom$PrimeField", "plus", "(II)I"⟩ ∈ jWS := jm 589 rfl rfl
set_option maxRecDepth 100000 in
theorem w590 : Cond.instanceMethod ⟨"SharingRoom$PrimeField", "plus", "(II)I"⟩ ∈ jWS := jm 590 rfl rfl
set_option maxRecDepth 100000 in
theorem w591 : Cond.code ⟨"SharingRoom$PrimeField", "plus", "(II)I"⟩ prog_9_method_2_code 3 (some FieldType.int) ∈ jWS := jm 591 rfl rfl
theorem L0_Prime_plus : jL0 y_Prime_plus m_Prime_plus 2 := ⟨w591, w65, ⟨by decide +kernel, by decide +kernel⟩, by decide +kernel, by decide +kernel⟩
set_option maxRecDepth 100000 in
theorem w579 : Cond.methodLink "SharingRoom$Points" 33 ⟨"SharingRoom$Points", "weight", "(II)I"⟩ ∈ jWS := jm 579 rfl rfl
set_option maxRecDepth 100000 in
theorem w582 : Cond.code ⟨"SharingRoom$Points", "weight", "(II)I"⟩ prog_8_method_9_code 6 (some FieldType.int) ∈ jWS := jm 582 rfl rfl
theorem L0_Points_weight : jL0 y_Points_weight m_Points_weight 2 := ⟨w582, w67, ⟨by decide +kernel, by decide +kernel⟩, by decide +kernel, by decide +kernel⟩
set_option maxRecDepth 100000 in
theorem w580 : Cond.instanceMethod ⟨"SharingRoom$Points", "weight", "(II)I"⟩ ∈ jWS := jm 580 rfl rfl
set_option maxRecDepth 100000 in
theorem w581 : Cond.selects "SharingRoom$Points" ⟨"SharingRoom$Points", "weight", "(II)I"⟩ ⟨"SharingRoom$Points", "weight", "(II)I"⟩ ∈ jWS := jm 581 rfl rfl
set_option maxRecDepth 100000 in
theorem w583 : Cond.methodLink "SharingRoom$Points" 40 ⟨"SharingRoom$Field", "plus", "(II)I"⟩ ∈ jWS := jm 583 rfl rfl
set_option maxRecDepth 100000 in
theorem w575 : Cond.methodLink "SharingRoom" 87 ⟨"SharingRoom$Points", "valueAt", "(I)I"⟩ ∈ jWS := jm 575 rfl rfl
set_option maxRecDepth 100000 in
theorem w578 : Cond.code ⟨"SharingRoom$Points", "valueAt", "(I)I"⟩ prog_8_method_8_code 4 (some FieldType.int) ∈ jWS := jm 578 rfl rfl
theorem L0_Points_valueAt : jL0 y_Points_valueAt m_Points_valueAt 1 := ⟨w578, w67, ⟨by decide +kernel, by decide +kernel⟩, by decide +kernel, by decide +kernel⟩
set_option maxRecDepth 100000 in
theorem w576 : Cond.instanceMethod ⟨"SharingRoom$Points", "valueAt", "(I)I"⟩ ∈ jWS := jm 576 rfl rfl
set_option maxRecDepth 100000 in
theorem w577 : Cond.selects "SharingRoom$Points" ⟨"SharingRoom$Points", "valueAt", "(I)I"⟩ ⟨"SharingRoom$Points", "valueAt", "(I)I"⟩ ∈ jWS := jm 577 rfl rfl
set_option maxRecDepth 100000 in
theorem wt574 : Cond.stringRef "SharingRoom" 85 "no points" ∈ lw_tbl := List.mem_of_getElem? (i := 574) rfl
set_option maxRecDepth 100000 in
theorem wt573 : Cond.stringRef "SharingRoom" 83 "no element of the field" ∈ lw_tbl := List.mem_of_getElem? (i := 573) rfl
set_option maxRecDepth 100000 in
theorem w277 : Cond.fieldLink "SharingRoom$Room" 30 "SharingRoom$Room" "groups" "[LSharingRoom$Group;" ∈ jWS := jm 277 rfl rfl
theorem fl_Room_30_7 : jFl "SharingRoom$Room" 30 7 0 := ⟨"SharingRoom$Room", T_Room, 15, "SharingRoom$Room", rfl, by decide, in_Room, w277, Or.inl rfl⟩
theorem fp_Board_20_1 (nm : String) : jFp "SharingRoom$Board" nm 20 1 2 (.int) := ⟨fl_Board_20_1, "SharingRoom$Board", T_Board, 3, ty_Board, rfl, tk_Board, nm_Board, rfl, Or.inl rfl⟩
set_option maxRecDepth 100000 in
theorem w236 : Cond.fieldLink "SharingRoom$Party" 11 "SharingRoom$Party" "coefficients" "[[I" ∈ jWS := jm 236 rfl rfl
theorem fl_Party_11_4 : jFl "SharingRoom$Party" 11 4 0 := ⟨"SharingRoom$Party", T_Party, 10, "SharingRoom$Party", rfl, by decide, in_Party, w236, Or.inl rfl⟩
set_option maxRecDepth 100000 in
theorem w623 : Cond.methodLink "SharingRoom$Party" 35 ⟨"java/util/Arrays", "fill", "([II)V"⟩ ∈ jWS := jm 623 rfl rfl
set_option maxRecDepth 100000 in
theorem w624 : Cond.static ⟨"java/util/Arrays", "fill", "([II)V"⟩ ∈ jWS := jm 624 rfl rfl
set_option maxRecDepth 100000 in
theorem w625 : Cond.code ⟨"java/util/Arrays", "fill", "([II)V"⟩ prog_25_method_103_code 4 none ∈ jWS := jm 625 rfl rfl
set_option maxRecDepth 100000 in
theorem w82 : Cond.initialized "java/util/Arrays" ∈ jWS := jm 82 rfl rfl
theorem L0_Arrays_fill : jL0 y_Arrays_fill m_Arrays_fill 2 := ⟨w625, w82, ⟨by decide +kernel, by decide +kernel⟩, by decide +kernel, by decide +kernel⟩
set_option maxRecDepth 100000 in
theorem w238 : Cond.fieldLink "SharingRoom$Party" 16 "SharingRoom$Party" "faults" "[I" ∈ jWS := jm 238 rfl rfl
theorem fl_Party_16_4 : jFl "SharingRoom$Party" 16 4 1 := ⟨"SharingRoom$Party", T_Party, 10, "SharingRoom$Party", rfl, by decide, in_Party, w238, Or.inl rfl⟩
theorem fp_Party_52_4 (nm : String) : jFp "SharingRoom$Party" nm 52 4 6 (.int) := ⟨fl_Party_52_4, "SharingRoom$Party", T_Party, 10, ty_Party, rfl, tk_Party, nm_Party, rfl, Or.inl rfl⟩
set_option maxRecDepth 100000 in
theorem w619 : Cond.methodLink "SharingRoom$Party" 32 ⟨"SharingRoom$Party", "forget", "()V"⟩ ∈ jWS := jm 619 rfl rfl
set_option maxRecDepth 100000 in
theorem w622 : Cond.code ⟨"SharingRoom$Party", "forget", "()V"⟩ prog_7_method_4_code 1 none ∈ jWS := jm 622 rfl rfl
theorem L0_Party_forget : jL0 y_Party_forget m_Party_forget 0 := ⟨w622, w74, ⟨by decide +kernel, by decide +kernel⟩, by decide +kernel, by decide +kernel⟩
set_option maxRecDepth 100000 in
theorem w620 : Cond.instanceMethod ⟨"SharingRoom$Party", "forget", "()V"⟩ ∈ jWS := jm 620 rfl rfl
set_option maxRecDepth 100000 in
theorem w621 : Cond.selects "SharingRoom$Party" ⟨"SharingRoom$Party", "forget", "()V"⟩ ⟨"SharingRoom$Party", "forget", "()V"⟩ ∈ jWS := jm 621 rfl rfl
set_option maxRecDepth 100000 in
theorem w240 : Cond.fieldLink "SharingRoom$Party" 20 "SharingRoom$Party" "shown" "[[I" ∈ jWS := jm 240 rfl rfl
theorem fl_Party_20_4 : jFl "SharingRoom$Party" 20 4 2 := ⟨"SharingRoom$Party", T_Party, 10, "SharingRoom$Party", rfl, by decide, in_Party, w240, Or.inl rfl⟩
set_option maxRecDepth 100000 in
theorem w242 : Cond.fieldLink "SharingRoom$Party" 23 "SharingRoom$Party" "numbers" "[[I" ∈ jWS := jm 242 rfl rfl
theorem fl_Party_23_4 : jFl "SharingRoom$Party" 23 4 3 := ⟨"SharingRoom$Party", T_Party, 10, "SharingRoom$Party", rfl, by decide, in_Party, w242, Or.inl rfl⟩
set_option maxRecDepth 100000 in
theorem w244 : Cond.fieldLink "SharingRoom$Party" 26 "SharingRoom$Party" "answers" "[[I" ∈ jWS := jm 244 rfl rfl
theorem fl_Party_26_4 : jFl "SharingRoom$Party" 26 4 4 := ⟨"SharingRoom$Party", T_Party, 10, "SharingRoom$Party", rfl, by decide, in_Party, w244, Or.inl rfl⟩
set_option maxRecDepth 100000 in
theorem w246 : Cond.fieldLink "SharingRoom$Party" 29 "SharingRoom$Party" "shares" "[I" ∈ jWS := jm 246 rfl rfl
theorem fl_Party_29_4 : jFl "SharingRoom$Party" 29 4 5 := ⟨"SharingRoom$Party", T_Party, 10, "SharingRoom$Party", rfl, by decide, in_Party, w246, Or.inl rfl⟩
set_option maxRecDepth 100000 in
theorem w250 : Cond.fieldLink "SharingRoom$Party" 41 "SharingRoom$Party" "complaints" "I" ∈ jWS := jm 250 rfl rfl
theorem fl_Party_41_4 : jFl "SharingRoom$Party" 41 4 7 := ⟨"SharingRoom$Party", T_Party, 10, "SharingRoom$Party", rfl, by decide, in_Party, w250, Or.inl rfl⟩
theorem fp_Party_41_4 (nm : String) : jFp "SharingRoom$Party" nm 41 4 7 (.int) := ⟨fl_Party_41_4, "SharingRoom$Party", T_Party, 10, ty_Party, rfl, tk_Party, nm_Party, rfl, Or.inl rfl⟩
set_option maxRecDepth 100000 in
theorem w252 : Cond.fieldLink "SharingRoom$Party" 45 "SharingRoom$Party" "dealt" "Z" ∈ jWS := jm 252 rfl rfl
theorem fl_Party_45_4 : jFl "SharingRoom$Party" 45 4 8 := ⟨"SharingRoom$Party", T_Party, 10, "SharingRoom$Party", rfl, by decide, in_Party, w252, Or.inl rfl⟩
theorem fp_Party_45_4 (nm : String) : jFp "SharingRoom$Party" nm 45 4 8 (.boolean) := ⟨fl_Party_45_4, "SharingRoom$Party", T_Party, 10, ty_Party, rfl, tk_Party, nm_Party, rfl, Or.inl rfl⟩
set_option maxRecDepth 100000 in
theorem w254 : Cond.fieldLink "SharingRoom$Party" 49 "SharingRoom$Party" "extracted" "Z" ∈ jWS := jm 254 rfl rfl
theorem fl_Party_49_4 : jFl "SharingRoom$Party" 49 4 9 := ⟨"SharingRoom$Party", T_Party, 10, "SharingRoom$Party", rfl, by decide, in_Party, w254, Or.inl rfl⟩
theorem fp_Party_49_4 (nm : String) : jFp "SharingRoom$Party" nm 49 4 9 (.boolean) := ⟨fl_Party_49_4, "SharingRoom$Party", T_Party, 10, ty_Party, rfl, tk_Party, nm_Party, rfl, Or.inl rfl⟩
set_option maxRecDepth 100000 in
theorem w282 : Cond.fieldLink "SharingRoom$Room" 34 "SharingRoom$Room" "group" "LSharingRoom$Group;" ∈ jWS := jm 282 rfl rfl
theorem fl_Room_34_7 : jFl "SharingRoom$Room" 34 7 5 := ⟨"SharingRoom$Room", T_Room, 15, "SharingRoom$Room", rfl, by decide, in_Room, w282, Or.inl rfl⟩
theorem fp_Room_34_7 (nm : String) : jFp "SharingRoom$Room" nm 34 7 5 (.object "SharingRoom$Group") := ⟨fl_Room_34_7, "SharingRoom$Room", T_Room, 15, ty_Room, rfl, tk_Room, nm_Room, rfl, Or.inl rfl⟩
set_option maxRecDepth 100000 in
theorem w155 : Cond.fieldLink "SharingRoom$Room" 38 "SharingRoom$Group" "exponents" "LSharingRoom$Field;" ∈ jWS := jm 155 rfl rfl
theorem fl_Room_38_9 : jFl "SharingRoom$Room" 38 9 0 := ⟨"SharingRoom$SquareGroup", T_Square, 4, "SharingRoom$Group", rfl, by decide, in_Square, w155, Or.inl rfl⟩
theorem fl_Room_38_3 : jFl "SharingRoom$Room" 38 3 0 := ⟨"SharingRoom$CurveGroup", T_Curve, 5, "SharingRoom$Group", rfl, by decide, in_Curve, w155, Or.inl rfl⟩
set_option maxRecDepth 100000 in
theorem w283 : Cond.fieldLink "SharingRoom$Room" 42 "SharingRoom$Room" "numbers" "LSharingRoom$Field;" ∈ jWS := jm 283 rfl rfl
theorem fl_Room_42_7 : jFl "SharingRoom$Room" 42 7 6 := ⟨"SharingRoom$Room", T_Room, 15, "SharingRoom$Room", rfl, by decide, in_Room, w283, Or.inl rfl⟩
theorem fp_Room_42_7 (nm : String) : jFp "SharingRoom$Room" nm 42 7 6 (.object "SharingRoom$Field") := ⟨fl_Room_42_7, "SharingRoom$Room", T_Room, 15, ty_Room, rfl, tk_Room, nm_Room, rfl, Or.inl rfl⟩
theorem fp_Room_55_7 (nm : String) : jFp "SharingRoom$Room" nm 55 7 7 (.int) := ⟨fl_Room_55_7, "SharingRoom$Room", T_Room, 15, ty_Room, rfl, tk_Room, nm_Room, rfl, Or.inl rfl⟩
set_option maxRecDepth 100000 in
theorem w285 : Cond.fieldLink "SharingRoom$Room" 59 "SharingRoom$Room" "t" "I" ∈ jWS := jm 285 rfl rfl
theorem fl_Room_59_7 : jFl "SharingRoom$Room" 59 7 8 := ⟨"SharingRoom$Room", T_Room, 15, "SharingRoom$Room", rfl, by decide, in_Room, w285, Or.inl rfl⟩
theorem fp_Room_59_7 (nm : String) : jFp "SharingRoom$Room" nm 59 7 8 (.int) := ⟨fl_Room_59_7, "SharingRoom$Room", T_Room, 15, ty_Room, rfl, tk_Room, nm_Room, rfl, Or.inl rfl⟩
theorem fp_Room_72_7 (nm : String) : jFp "SharingRoom$Room" nm 72 7 9 (.int) := ⟨fl_Room_72_7, "SharingRoom$Room", T_Room, 15, ty_Room, rfl, tk_Room, nm_Room, rfl, Or.inl rfl⟩
theorem fp_Room_75_7 (nm : String) : jFp "SharingRoom$Room" nm 75 7 10 (.int) := ⟨fl_Room_75_7, "SharingRoom$Room", T_Room, 15, ty_Room, rfl, tk_Room, nm_Room, rfl, Or.inl rfl⟩
theorem fp_Room_78_7 (nm : String) : jFp "SharingRoom$Room" nm 78 7 11 (.int) := ⟨fl_Room_78_7, "SharingRoom$Room", T_Room, 15, ty_Room, rfl, tk_Room, nm_Room, rfl, Or.inl rfl⟩
theorem fp_Room_81_7 (nm : String) : jFp "SharingRoom$Room" nm 81 7 12 (.int) := ⟨fl_Room_81_7, "SharingRoom$Room", T_Room, 15, ty_Room, rfl, tk_Room, nm_Room, rfl, Or.inl rfl⟩
theorem fp_Room_84_7 (nm : String) : jFp "SharingRoom$Room" nm 84 7 13 (.int) := ⟨fl_Room_84_7, "SharingRoom$Room", T_Room, 15, ty_Room, rfl, tk_Room, nm_Room, rfl, Or.inl rfl⟩
set_option maxRecDepth 100000 in
theorem w159 : Cond.fieldLink "SharingRoom$Room" 87 "SharingRoom$Group" "neutral" "I" ∈ jWS := jm 159 rfl rfl
theorem fl_Room_87_9 : jFl "SharingRoom$Room" 87 9 1 := ⟨"SharingRoom$SquareGroup", T_Square, 4, "SharingRoom$Group", rfl, by decide, in_Square, w159, Or.inl rfl⟩
theorem fl_Room_87_3 : jFl "SharingRoom$Room" 87 3 1 := ⟨"SharingRoom$CurveGroup", T_Curve, 5, "SharingRoom$Group", rfl, by decide, in_Curve, w159, Or.inl rfl⟩
theorem fp_Room_90_7 (nm : String) : jFp "SharingRoom$Room" nm 90 7 14 (.int) := ⟨fl_Room_90_7, "SharingRoom$Room", T_Room, 15, ty_Room, rfl, tk_Room, nm_Room, rfl, Or.inl rfl⟩
set_option maxRecDepth 100000 in
theorem w611 : Cond.methodLink "SharingRoom$Room" 93 ⟨"SharingRoom$Board", "clear", "()V"⟩ ∈ jWS := jm 611 rfl rfl
set_option maxRecDepth 100000 in
theorem w614 : Cond.code ⟨"SharingRoom$Board", "clear", "()V"⟩ prog_2_method_2_code 1 none ∈ jWS := jm 614 rfl rfl
theorem L0_Board_clear : jL0 y_Board_clear m_Board_clear 0 := ⟨w614, w72, ⟨by decide +kernel, by decide +kernel⟩, by decide +kernel, by decide +kernel⟩
set_option maxRecDepth 100000 in
theorem w612 : Cond.instanceMethod ⟨"SharingRoom$Board", "clear", "()V"⟩ ∈ jWS := jm 612 rfl rfl
set_option maxRecDepth 100000 in
theorem w613 : Cond.selects "SharingRoom$Board" ⟨"SharingRoom$Board", "clear", "()V"⟩ ⟨"SharingRoom$Board", "clear", "()V"⟩ ∈ jWS := jm 613 rfl rfl
set_option maxRecDepth 100000 in
theorem w615 : Cond.methodLink "SharingRoom$Room" 100 ⟨"SharingRoom$Party", "clear", "()V"⟩ ∈ jWS := jm 615 rfl rfl
set_option maxRecDepth 100000 in
theorem w618 : Cond.code ⟨"SharingRoom$Party", "clear", "()V"⟩ prog_7_method_3_code 2 none ∈ jWS := jm 618 rfl rfl
theorem L0_Party_clear : jL0 y_Party_clear m_Party_clear 0 := ⟨w618, w74, ⟨by decide +kernel, by decide +kernel⟩, by decide +kernel, by decide +kernel⟩
set_option maxRecDepth 100000 in
theorem w616 : Cond.instanceMethod ⟨"SharingRoom$Party", "clear", "()V"⟩ ∈ jWS := jm 616 rfl rfl
set_option maxRecDepth 100000 in
theorem w617 : Cond.selects "SharingRoom$Party" ⟨"SharingRoom$Party", "clear", "()V"⟩ ⟨"SharingRoom$Party", "clear", "()V"⟩ ∈ jWS := jm 617 rfl rfl
set_option maxRecDepth 100000 in
theorem w599 : Cond.methodLink "SharingRoom" 94 ⟨"SharingRoom$Room", "hasGroup", "(I)Z"⟩ ∈ jWS := jm 599 rfl rfl
set_option maxRecDepth 100000 in
theorem w602 : Cond.code ⟨"SharingRoom$Room", "hasGroup", "(I)Z"⟩ prog_10_method_3_code 2 (some FieldType.boolean) ∈ jWS := jm 602 rfl rfl
theorem L0_Room_hasGroup : jL0 y_Room_hasGroup m_Room_hasGroup 1 := ⟨w602, w68, ⟨by decide +kernel, by decide +kernel⟩, by decide +kernel, by decide +kernel⟩
set_option maxRecDepth 100000 in
theorem w600 : Cond.instanceMethod ⟨"SharingRoom$Room", "hasGroup", "(I)Z"⟩ ∈ jWS := jm 600 rfl rfl
set_option maxRecDepth 100000 in
theorem w601 : Cond.selects "SharingRoom$Room" ⟨"SharingRoom$Room", "hasGroup", "(I)Z"⟩ ⟨"SharingRoom$Room", "hasGroup", "(I)Z"⟩ ∈ jWS := jm 601 rfl rfl
set_option maxRecDepth 100000 in
theorem wt606 : Cond.stringRef "SharingRoom" 101 "no such room" ∈ lw_tbl := List.mem_of_getElem? (i := 606) rfl
set_option maxRecDepth 100000 in
theorem w603 : Cond.methodLink "SharingRoom" 97 ⟨"SharingRoom$Room", "isCommittee", "(II)Z"⟩ ∈ jWS := jm 603 rfl rfl
set_option maxRecDepth 100000 in
theorem w605 : Cond.code ⟨"SharingRoom$Room", "isCommittee", "(II)Z"⟩ prog_10_method_2_code 2 (some FieldType.boolean) ∈ jWS := jm 605 rfl rfl
theorem L0_Room_isCommittee : jL0 y_Room_isCommittee m_Room_isCommittee 2 := ⟨w605, w68, ⟨by decide +kernel, by decide +kernel⟩, by decide +kernel, by decide +kernel⟩
set_option maxRecDepth 100000 in
theorem w604 : Cond.static ⟨"SharingRoom$Room", "isCommittee", "(II)Z"⟩ ∈ jWS := jm 604 rfl rfl
set_option maxRecDepth 100000 in
theorem w607 : Cond.methodLink "SharingRoom" 103 ⟨"SharingRoom$Room", "start", "(III)V"⟩ ∈ jWS := jm 607 rfl rfl
set_option maxRecDepth 100000 in
theorem w610 : Cond.code ⟨"SharingRoom$Room", "start", "(III)V"⟩ prog_10_method_9_code 5 none ∈ jWS := jm 610 rfl rfl
theorem L0_Room_start : jL0 y_Room_start m_Room_start 3 := ⟨w610, w68, ⟨by decide +kernel, by decide +kernel⟩, by decide +kernel, by decide +kernel⟩
set_option maxRecDepth 100000 in
theorem w608 : Cond.instanceMethod ⟨"SharingRoom$Room", "start", "(III)V"⟩ ∈ jWS := jm 608 rfl rfl
set_option maxRecDepth 100000 in
theorem w609 : Cond.selects "SharingRoom$Room" ⟨"SharingRoom$Room", "start", "(III)V"⟩ ⟨"SharingRoom$Room", "start", "(III)V"⟩ ∈ jWS := jm 609 rfl rfl
set_option maxRecDepth 100000 in
theorem w642 : Cond.methodLink "SharingRoom" 228 ⟨"SharingRoom$Room", "hasParty", "(I)Z"⟩ ∈ jWS := jm 642 rfl rfl
set_option maxRecDepth 100000 in
theorem w645 : Cond.code ⟨"SharingRoom$Room", "hasParty", "(I)Z"⟩ prog_10_method_4_code 2 (some FieldType.boolean) ∈ jWS := jm 645 rfl rfl
theorem L0_Room_hasParty : jL0 y_Room_hasParty m_Room_hasParty 1 := ⟨w645, w68, ⟨by decide +kernel, by decide +kernel⟩, by decide +kernel, by decide +kernel⟩
set_option maxRecDepth 100000 in
theorem w643 : Cond.instanceMethod ⟨"SharingRoom$Room", "hasParty", "(I)Z"⟩ ∈ jWS := jm 643 rfl rfl
set_option maxRecDepth 100000 in
theorem w644 : Cond.selects "SharingRoom$Room" ⟨"SharingRoom$Room", "hasParty", "(I)Z"⟩ ⟨"SharingRoom$Room", "hasParty", "(I)Z"⟩ ∈ jWS := jm 644 rfl rfl
set_option maxRecDepth 100000 in
theorem wt646 : Cond.stringRef "SharingRoom" 231 "no such party" ∈ lw_tbl := List.mem_of_getElem? (i := 646) rfl
set_option maxRecDepth 100000 in
theorem w651 : Cond.methodLink "SharingRoom" 233 ⟨"SharingRoom$Room", "hasCoefficient", "(I)Z"⟩ ∈ jWS := jm 651 rfl rfl
set_option maxRecDepth 100000 in
theorem w654 : Cond.code ⟨"SharingRoom$Room", "hasCoefficient", "(I)Z"⟩ prog_10_method_5_code 2 (some FieldType.boolean) ∈ jWS := jm 654 rfl rfl
theorem L0_Room_hasCoefficient : jL0 y_Room_hasCoefficient m_Room_hasCoefficient 1 := ⟨w654, w68, ⟨by decide +kernel, by decide +kernel⟩, by decide +kernel, by decide +kernel⟩
set_option maxRecDepth 100000 in
theorem w652 : Cond.instanceMethod ⟨"SharingRoom$Room", "hasCoefficient", "(I)Z"⟩ ∈ jWS := jm 652 rfl rfl
set_option maxRecDepth 100000 in
theorem w653 : Cond.selects "SharingRoom$Room" ⟨"SharingRoom$Room", "hasCoefficient", "(I)Z"⟩ ⟨"SharingRoom$Room", "hasCoefficient", "(I)Z"⟩ ∈ jWS := jm 653 rfl rfl
set_option maxRecDepth 100000 in
theorem wt655 : Cond.stringRef "SharingRoom" 236 "no such coefficient" ∈ lw_tbl := List.mem_of_getElem? (i := 655) rfl
set_option maxRecDepth 100000 in
theorem wt659 : Cond.stringRef "SharingRoom" 238 "neither the first nor the second" ∈ lw_tbl := List.mem_of_getElem? (i := 659) rfl
set_option maxRecDepth 100000 in
theorem w237 : Cond.fieldLink "SharingRoom$Room" 101 "SharingRoom$Party" "coefficients" "[[I" ∈ jWS := jm 237 rfl rfl
theorem fl_Room_101_4 : jFl "SharingRoom$Room" 101 4 0 := ⟨"SharingRoom$Party", T_Party, 10, "SharingRoom$Party", rfl, by decide, in_Party, w237, Or.inl rfl⟩
set_option maxRecDepth 100000 in
theorem w106 : Cond.fieldLink "SharingRoom$Room" 105 "SharingRoom$Field" "size" "I" ∈ jWS := jm 106 rfl rfl
theorem fl_Room_105_2 : jFl "SharingRoom$Room" 105 2 0 := ⟨"SharingRoom$ByteField", T_Byte, 1, "SharingRoom$Field", rfl, by decide, in_Byte, w106, Or.inl rfl⟩
theorem fl_Room_105_6 : jFl "SharingRoom$Room" 105 6 0 := ⟨"SharingRoom$PrimeField", T_Prime, 1, "SharingRoom$Field", rfl, by decide, in_Prime, w106, Or.inl rfl⟩
set_option maxRecDepth 100000 in
theorem w664 : Cond.methodLink "SharingRoom$Room" 110 ⟨"java/lang/Math", "floorMod", "(II)I"⟩ ∈ jWS := jm 664 rfl rfl
set_option maxRecDepth 100000 in
theorem w666 : Cond.code ⟨"java/lang/Math", "floorMod", "(II)I"⟩ prog_20_method_50_code 3 (some FieldType.int) ∈ jWS := jm 666 rfl rfl
set_option maxRecDepth 100000 in
theorem w83 : Cond.initialized "java/lang/Math" ∈ jWS := jm 83 rfl rfl
theorem L0_Math_floorMod : jL0 y_Math_floorMod m_Math_floorMod 2 := ⟨w666, w83, ⟨by decide +kernel, by decide +kernel⟩, by decide +kernel, by decide +kernel⟩
set_option maxRecDepth 100000 in
theorem w665 : Cond.static ⟨"java/lang/Math", "floorMod", "(II)I"⟩ ∈ jWS := jm 665 rfl rfl
set_option maxRecDepth 100000 in
theorem w633 : Cond.methodLink "SharingRoom" 107 ⟨"SharingRoom$Room", "takesCoefficients", "()Z"⟩ ∈ jWS := jm 633 rfl rfl
set_option maxRecDepth 100000 in
theorem w636 : Cond.code ⟨"SharingRoom$Room", "takesCoefficients", "()Z"⟩ prog_10_method_7_code 1 (some FieldType.boolean) ∈ jWS := jm 636 rfl rfl
theorem L0_Room_takesCoefficients : jL0 y_Room_takesCoefficients m_Room_takesCoefficients 0 := ⟨w636, w68, ⟨by decide +kernel, by decide +kernel⟩, by decide +kernel, by decide +kernel⟩
set_option maxRecDepth 100000 in
theorem w634 : Cond.instanceMethod ⟨"SharingRoom$Room", "takesCoefficients", "()Z"⟩ ∈ jWS := jm 634 rfl rfl
set_option maxRecDepth 100000 in
theorem w635 : Cond.selects "SharingRoom$Room" ⟨"SharingRoom$Room", "takesCoefficients", "()Z"⟩ ⟨"SharingRoom$Room", "takesCoefficients", "()Z"⟩ ∈ jWS := jm 635 rfl rfl
set_option maxRecDepth 100000 in
theorem w638 : Cond.methodLink "SharingRoom" 112 ⟨"SharingRoom", "needParty", "(I)V"⟩ ∈ jWS := jm 638 rfl rfl
set_option maxRecDepth 100000 in
theorem w641 : Cond.code ⟨"SharingRoom", "needParty", "(I)V"⟩ prog_1_method_26_code 2 none ∈ jWS := jm 641 rfl rfl
theorem L0_SR_needParty : jL0 y_SR_needParty m_SR_needParty 1 := ⟨w641, w63, ⟨by decide +kernel, by decide +kernel⟩, by decide +kernel, by decide +kernel⟩
set_option maxRecDepth 100000 in
theorem w640 : Cond.instanceMethod ⟨"SharingRoom", "needParty", "(I)V"⟩ ∈ jWS := jm 640 rfl rfl
set_option maxRecDepth 100000 in
theorem w3 : Cond.selects "SharingRoom" ⟨"SharingRoom", "needParty", "(I)V"⟩ ⟨"SharingRoom", "needParty", "(I)V"⟩ ∈ jWS := jm 3 rfl rfl
set_option maxRecDepth 100000 in
theorem w647 : Cond.methodLink "SharingRoom" 115 ⟨"SharingRoom", "needCoefficient", "(I)V"⟩ ∈ jWS := jm 647 rfl rfl
set_option maxRecDepth 100000 in
theorem w650 : Cond.code ⟨"SharingRoom", "needCoefficient", "(I)V"⟩ prog_1_method_27_code 2 none ∈ jWS := jm 650 rfl rfl
theorem L0_SR_needCoefficient : jL0 y_SR_needCoefficient m_SR_needCoefficient 1 := ⟨w650, w63, ⟨by decide +kernel, by decide +kernel⟩, by decide +kernel, by decide +kernel⟩
set_option maxRecDepth 100000 in
theorem w649 : Cond.instanceMethod ⟨"SharingRoom", "needCoefficient", "(I)V"⟩ ∈ jWS := jm 649 rfl rfl
set_option maxRecDepth 100000 in
theorem w4 : Cond.selects "SharingRoom" ⟨"SharingRoom", "needCoefficient", "(I)V"⟩ ⟨"SharingRoom", "needCoefficient", "(I)V"⟩ ∈ jWS := jm 4 rfl rfl
set_option maxRecDepth 100000 in
theorem w656 : Cond.methodLink "SharingRoom" 118 ⟨"SharingRoom", "needWhich", "(I)V"⟩ ∈ jWS := jm 656 rfl rfl
set_option maxRecDepth 100000 in
theorem w658 : Cond.code ⟨"SharingRoom", "needWhich", "(I)V"⟩ prog_1_method_28_code 1 none ∈ jWS := jm 658 rfl rfl
theorem L0_SR_needWhich : jL0 y_SR_needWhich m_SR_needWhich 1 := ⟨w658, w63, ⟨by decide +kernel, by decide +kernel⟩, by decide +kernel, by decide +kernel⟩
set_option maxRecDepth 100000 in
theorem w657 : Cond.static ⟨"SharingRoom", "needWhich", "(I)V"⟩ ∈ jWS := jm 657 rfl rfl
set_option maxRecDepth 100000 in
theorem w660 : Cond.methodLink "SharingRoom" 121 ⟨"SharingRoom$Room", "setCoefficient", "(IIII)V"⟩ ∈ jWS := jm 660 rfl rfl
set_option maxRecDepth 100000 in
theorem w663 : Cond.code ⟨"SharingRoom$Room", "setCoefficient", "(IIII)V"⟩ prog_10_method_10_code 5 none ∈ jWS := jm 663 rfl rfl
theorem L0_Room_setCoefficient : jL0 y_Room_setCoefficient m_Room_setCoefficient 4 := ⟨w663, w68, ⟨by decide +kernel, by decide +kernel⟩, by decide +kernel, by decide +kernel⟩
set_option maxRecDepth 100000 in
theorem w661 : Cond.instanceMethod ⟨"SharingRoom$Room", "setCoefficient", "(IIII)V"⟩ ∈ jWS := jm 661 rfl rfl
set_option maxRecDepth 100000 in
theorem w662 : Cond.selects "SharingRoom$Room" ⟨"SharingRoom$Room", "setCoefficient", "(IIII)V"⟩ ⟨"SharingRoom$Room", "setCoefficient", "(IIII)V"⟩ ∈ jWS := jm 662 rfl rfl
set_option maxRecDepth 100000 in
theorem wt637 : Cond.stringRef "SharingRoom" 110 "no room, or in rounds" ∈ lw_tbl := List.mem_of_getElem? (i := 637) rfl
set_option maxRecDepth 100000 in
theorem w678 : Cond.methodLink "SharingRoom" 221 ⟨"SharingRoom$Room", "isBeforeRounds", "()Z"⟩ ∈ jWS := jm 678 rfl rfl
set_option maxRecDepth 100000 in
theorem w681 : Cond.code ⟨"SharingRoom$Room", "isBeforeRounds", "()Z"⟩ prog_10_method_8_code 1 (some FieldType.boolean) ∈ jWS := jm 681 rfl rfl
theorem L0_Room_isBeforeRounds : jL0 y_Room_isBeforeRounds m_Room_isBeforeRounds 0 := ⟨w681, w68, ⟨by decide +kernel, by decide +kernel⟩, by decide +kernel, by decide +kernel⟩
set_option maxRecDepth 100000 in
theorem w679 : Cond.instanceMethod ⟨"SharingRoom$Room", "isBeforeRounds", "()Z"⟩ ∈ jWS := jm 679 rfl rfl
set_option maxRecDepth 100000 in
theorem w680 : Cond.selects "SharingRoom$Room" ⟨"SharingRoom$Room", "isBeforeRounds", "()Z"⟩ ⟨"SharingRoom$Room", "isBeforeRounds", "()Z"⟩ ∈ jWS := jm 680 rfl rfl
set_option maxRecDepth 100000 in
theorem wt682 : Cond.stringRef "SharingRoom" 224 "no room, or a round was done" ∈ lw_tbl := List.mem_of_getElem? (i := 682) rfl
set_option maxRecDepth 100000 in
theorem w239 : Cond.fieldLink "SharingRoom$Room" 116 "SharingRoom$Party" "faults" "[I" ∈ jWS := jm 239 rfl rfl
theorem fl_Room_116_4 : jFl "SharingRoom$Room" 116 4 1 := ⟨"SharingRoom$Party", T_Party, 10, "SharingRoom$Party", rfl, by decide, in_Party, w239, Or.inl rfl⟩
set_option maxRecDepth 100000 in
theorem w674 : Cond.methodLink "SharingRoom" 125 ⟨"SharingRoom", "needBeforeRounds", "()V"⟩ ∈ jWS := jm 674 rfl rfl
set_option maxRecDepth 100000 in
theorem w677 : Cond.code ⟨"SharingRoom", "needBeforeRounds", "()V"⟩ prog_1_method_24_code 1 none ∈ jWS := jm 677 rfl rfl
theorem L0_SR_needBeforeRounds : jL0 y_SR_needBeforeRounds m_SR_needBeforeRounds 0 := ⟨w677, w63, ⟨by decide +kernel, by decide +kernel⟩, by decide +kernel, by decide +kernel⟩
set_option maxRecDepth 100000 in
theorem w676 : Cond.instanceMethod ⟨"SharingRoom", "needBeforeRounds", "()V"⟩ ∈ jWS := jm 676 rfl rfl
set_option maxRecDepth 100000 in
theorem w5 : Cond.selects "SharingRoom" ⟨"SharingRoom", "needBeforeRounds", "()V"⟩ ⟨"SharingRoom", "needBeforeRounds", "()V"⟩ ∈ jWS := jm 5 rfl rfl
set_option maxRecDepth 100000 in
theorem wt683 : Cond.stringRef "SharingRoom" 130 "no such fault" ∈ lw_tbl := List.mem_of_getElem? (i := 683) rfl
set_option maxRecDepth 100000 in
theorem w684 : Cond.methodLink "SharingRoom" 132 ⟨"SharingRoom$Party", "concernsAnother", "(I)Z"⟩ ∈ jWS := jm 684 rfl rfl
set_option maxRecDepth 100000 in
theorem w686 : Cond.code ⟨"SharingRoom$Party", "concernsAnother", "(I)Z"⟩ prog_7_method_2_code 1 (some FieldType.boolean) ∈ jWS := jm 686 rfl rfl
theorem L0_Party_concernsAnother : jL0 y_Party_concernsAnother m_Party_concernsAnother 1 := ⟨w686, w74, ⟨by decide +kernel, by decide +kernel⟩, by decide +kernel, by decide +kernel⟩
set_option maxRecDepth 100000 in
theorem w685 : Cond.static ⟨"SharingRoom$Party", "concernsAnother", "(I)Z"⟩ ∈ jWS := jm 685 rfl rfl
set_option maxRecDepth 100000 in
theorem w687 : Cond.methodLink "SharingRoom" 135 ⟨"SharingRoom$Room", "setFault", "(III)V"⟩ ∈ jWS := jm 687 rfl rfl
set_option maxRecDepth 100000 in
theorem w690 : Cond.code ⟨"SharingRoom$Room", "setFault", "(III)V"⟩ prog_10_method_11_code 4 none ∈ jWS := jm 690 rfl rfl
theorem L0_Room_setFault : jL0 y_Room_setFault m_Room_setFault 3 := ⟨w690, w68, ⟨by decide +kernel, by decide +kernel⟩, by decide +kernel, by decide +kernel⟩
set_option maxRecDepth 100000 in
theorem w688 : Cond.instanceMethod ⟨"SharingRoom$Room", "setFault", "(III)V"⟩ ∈ jWS := jm 688 rfl rfl
set_option maxRecDepth 100000 in
theorem w689 : Cond.selects "SharingRoom$Room" ⟨"SharingRoom$Room", "setFault", "(III)V"⟩ ⟨"SharingRoom$Room", "setFault", "(III)V"⟩ ∈ jWS := jm 689 rfl rfl
set_option maxRecDepth 100000 in
theorem wt691 : Cond.stringRef "SharingRoom" 138 "not another party" ∈ lw_tbl := List.mem_of_getElem? (i := 691) rfl
set_option maxRecDepth 100000 in
theorem w249 : Cond.fieldLink "SharingRoom$Room" 119 "SharingRoom$Party" "crashRound" "I" ∈ jWS := jm 249 rfl rfl
theorem fl_Room_119_4 : jFl "SharingRoom$Room" 119 4 6 := ⟨"SharingRoom$Party", T_Party, 10, "SharingRoom$Party", rfl, by decide, in_Party, w249, Or.inl rfl⟩
theorem fp_Room_119_4 (nm : String) : jFp "SharingRoom$Room" nm 119 4 6 (.int) := ⟨fl_Room_119_4, "SharingRoom$Party", T_Party, 10, ty_Party, rfl, tk_Party, nm_Party, rfl, Or.inl rfl⟩
set_option maxRecDepth 100000 in
theorem wt699 : Cond.stringRef "SharingRoom" 140 "no such round" ∈ lw_tbl := List.mem_of_getElem? (i := 699) rfl
set_option maxRecDepth 100000 in
theorem w700 : Cond.methodLink "SharingRoom" 142 ⟨"SharingRoom$Room", "setCrash", "(II)V"⟩ ∈ jWS := jm 700 rfl rfl
set_option maxRecDepth 100000 in
theorem w703 : Cond.code ⟨"SharingRoom$Room", "setCrash", "(II)V"⟩ prog_10_method_12_code 3 none ∈ jWS := jm 703 rfl rfl
theorem L0_Room_setCrash : jL0 y_Room_setCrash m_Room_setCrash 2 := ⟨w703, w68, ⟨by decide +kernel, by decide +kernel⟩, by decide +kernel, by decide +kernel⟩
set_option maxRecDepth 100000 in
theorem w701 : Cond.instanceMethod ⟨"SharingRoom$Room", "setCrash", "(II)V"⟩ ∈ jWS := jm 701 rfl rfl
set_option maxRecDepth 100000 in
theorem w702 : Cond.selects "SharingRoom$Room" ⟨"SharingRoom$Room", "setCrash", "(II)V"⟩ ⟨"SharingRoom$Room", "setCrash", "(II)V"⟩ ∈ jWS := jm 702 rfl rfl
set_option maxRecDepth 100000 in
theorem w215 : Cond.fieldLink "SharingRoom$Board" 9 "SharingRoom$Board" "bytes" "[B" ∈ jWS := jm 215 rfl rfl
theorem fl_Board_9_1 : jFl "SharingRoom$Board" 9 1 0 := ⟨"SharingRoom$Board", T_Board, 3, "SharingRoom$Board", rfl, by decide, in_Board, w215, Or.inl rfl⟩
set_option maxRecDepth 100000 in
theorem w732 : Cond.methodLink "SharingRoom$Board" 24 ⟨"SharingRoom$Board", "writeByte", "(I)V"⟩ ∈ jWS := jm 732 rfl rfl
set_option maxRecDepth 100000 in
theorem w735 : Cond.code ⟨"SharingRoom$Board", "writeByte", "(I)V"⟩ prog_2_method_7_code 2 none ∈ jWS := jm 735 rfl rfl
theorem L0_Board_writeByte : jL0 y_Board_writeByte m_Board_writeByte 1 := ⟨w735, w72, ⟨by decide +kernel, by decide +kernel⟩, by decide +kernel, by decide +kernel⟩
set_option maxRecDepth 100000 in
theorem w733 : Cond.instanceMethod ⟨"SharingRoom$Board", "writeByte", "(I)V"⟩ ∈ jWS := jm 733 rfl rfl
set_option maxRecDepth 100000 in
theorem w734 : Cond.selects "SharingRoom$Board" ⟨"SharingRoom$Board", "writeByte", "(I)V"⟩ ⟨"SharingRoom$Board", "writeByte", "(I)V"⟩ ∈ jWS := jm 734 rfl rfl
set_option maxRecDepth 100000 in
theorem w157 : Cond.fieldLink "SharingRoom$CurveGroup" 13 "SharingRoom$CurveGroup" "neutral" "I" ∈ jWS := jm 157 rfl rfl
set_option maxRecDepth 100000 in
theorem w158 : Cond.sameField "SharingRoom$CurveGroup" "SharingRoom$Group" "neutral" "I" ∈ jWS := jm 158 rfl rfl
theorem fl_Curve_13_3 : jFl "SharingRoom$CurveGroup" 13 3 1 := ⟨"SharingRoom$CurveGroup", T_Curve, 5, "SharingRoom$CurveGroup", rfl, by decide, in_Curve, w157, Or.inr w158⟩
set_option maxRecDepth 100000 in
theorem w178 : Cond.fieldLink "SharingRoom$CurveGroup" 9 "SharingRoom$CurveGroup" "inverses" "[I" ∈ jWS := jm 178 rfl rfl
theorem fl_Curve_9_3 : jFl "SharingRoom$CurveGroup" 9 3 4 := ⟨"SharingRoom$CurveGroup", T_Curve, 5, "SharingRoom$CurveGroup", rfl, by decide, in_Curve, w178, Or.inl rfl⟩
set_option maxRecDepth 100000 in
theorem w750 : Cond.sameMethod "SharingRoom$Group" "SharingRoom$Group" "product" "(II)I" ∈ jWS := jm 750 rfl rfl
set_option maxRecDepth 100000 in
theorem wt749 : Cond.declares ⟨"SharingRoom$Group", "product", "(II)I"⟩ ∈ lw_tbl := List.mem_of_getElem? (i := 749) rfl
set_option maxRecDepth 100000 in
theorem w754 : Cond.selects "SharingRoom$SquareGroup" ⟨"SharingRoom$Group", "product", "(II)I"⟩ ⟨"SharingRoom$SquareGroup", "product", "(II)I"⟩ ∈ jWS := jm 754 rfl rfl
set_option maxRecDepth 100000 in
theorem w755 : Cond.instanceMethod ⟨"SharingRoom$SquareGroup", "product", "(II)I"⟩ ∈ jWS := jm 755 rfl rfl
set_option maxRecDepth 100000 in
theorem w756 : Cond.code ⟨"SharingRoom$SquareGroup", "product", "(II)I"⟩ prog_12_method_2_code 3 (some FieldType.int) ∈ jWS := jm 756 rfl rfl
set_option maxRecDepth 100000 in
theorem w70 : Cond.initialized "SharingRoom$SquareGroup" ∈ jWS := jm 70 rfl rfl
theorem L0_Square_product : jL0 y_Square_product m_Square_product 2 := ⟨w756, w70, ⟨by decide +kernel, by decide +kernel⟩, by decide +kernel, by decide +kernel⟩
set_option maxRecDepth 100000 in
theorem w751 : Cond.selects "SharingRoom$CurveGroup" ⟨"SharingRoom$Group", "product", "(II)I"⟩ ⟨"SharingRoom$CurveGroup", "product", "(II)I"⟩ ∈ jWS := jm 751 rfl rfl
set_option maxRecDepth 100000 in
theorem w752 : Cond.instanceMethod ⟨"SharingRoom$CurveGroup", "product", "(II)I"⟩ ∈ jWS := jm 752 rfl rfl
set_option maxRecDepth 100000 in
theorem w753 : Cond.code ⟨"SharingRoom$CurveGroup", "product", "(II)I"⟩ prog_4_method_2_code 12 (some FieldType.int) ∈ jWS := jm 753 rfl rfl
set_option maxRecDepth 100000 in
theorem w71 : Cond.initialized "SharingRoom$CurveGroup" ∈ jWS := jm 71 rfl rfl
theorem L0_Curve_product : jL0 y_Curve_product m_Curve_product 2 := ⟨w753, w71, ⟨by decide +kernel, by decide +kernel⟩, by decide +kernel, by decide +kernel⟩
set_option maxRecDepth 100000 in
theorem w156 : Cond.fieldLink "SharingRoom$Group" 13 "SharingRoom$Group" "neutral" "I" ∈ jWS := jm 156 rfl rfl
theorem fl_Group_13_9 : jFl "SharingRoom$Group" 13 9 1 := ⟨"SharingRoom$SquareGroup", T_Square, 4, "SharingRoom$Group", rfl, by decide, in_Square, w156, Or.inl rfl⟩
theorem fl_Group_13_3 : jFl "SharingRoom$Group" 13 3 1 := ⟨"SharingRoom$CurveGroup", T_Curve, 5, "SharingRoom$Group", rfl, by decide, in_Curve, w156, Or.inl rfl⟩
set_option maxRecDepth 100000 in
theorem w748 : Cond.methodLink "SharingRoom$Group" 23 ⟨"SharingRoom$Group", "product", "(II)I"⟩ ∈ jWS := jm 748 rfl rfl
set_option maxRecDepth 100000 in
theorem w744 : Cond.sameMethod "SharingRoom$Group" "SharingRoom$Group" "power" "(II)I" ∈ jWS := jm 744 rfl rfl
set_option maxRecDepth 100000 in
theorem w746 : Cond.selects "SharingRoom$SquareGroup" ⟨"SharingRoom$Group", "power", "(II)I"⟩ ⟨"SharingRoom$Group", "power", "(II)I"⟩ ∈ jWS := jm 746 rfl rfl
set_option maxRecDepth 100000 in
theorem w743 : Cond.instanceMethod ⟨"SharingRoom$Group", "power", "(II)I"⟩ ∈ jWS := jm 743 rfl rfl
set_option maxRecDepth 100000 in
theorem w747 : Cond.code ⟨"SharingRoom$Group", "power", "(II)I"⟩ prog_6_method_3_code 6 (some FieldType.int) ∈ jWS := jm 747 rfl rfl
set_option maxRecDepth 100000 in
theorem w69 : Cond.initialized "SharingRoom$Group" ∈ jWS := jm 69 rfl rfl
theorem L0_Group_power : jL0 y_Group_power m_Group_power 2 := ⟨w747, w69, ⟨by decide +kernel, by decide +kernel⟩, by decide +kernel, by decide +kernel⟩
set_option maxRecDepth 100000 in
theorem w745 : Cond.selects "SharingRoom$CurveGroup" ⟨"SharingRoom$Group", "power", "(II)I"⟩ ⟨"SharingRoom$Group", "power", "(II)I"⟩ ∈ jWS := jm 745 rfl rfl
set_option maxRecDepth 100000 in
theorem w160 : Cond.fieldLink "SharingRoom$Group" 17 "SharingRoom$Group" "g" "I" ∈ jWS := jm 160 rfl rfl
theorem fl_Group_17_9 : jFl "SharingRoom$Group" 17 9 2 := ⟨"SharingRoom$SquareGroup", T_Square, 4, "SharingRoom$Group", rfl, by decide, in_Square, w160, Or.inl rfl⟩
theorem fl_Group_17_3 : jFl "SharingRoom$Group" 17 3 2 := ⟨"SharingRoom$CurveGroup", T_Curve, 5, "SharingRoom$Group", rfl, by decide, in_Curve, w160, Or.inl rfl⟩
set_option maxRecDepth 100000 in
theorem w742 : Cond.methodLink "SharingRoom$Group" 27 ⟨"SharingRoom$Group", "power", "(II)I"⟩ ∈ jWS := jm 742 rfl rfl
set_option maxRecDepth 100000 in
theorem w162 : Cond.fieldLink "SharingRoom$Group" 20 "SharingRoom$Group" "h" "I" ∈ jWS := jm 162 rfl rfl
theorem fl_Group_20_9 : jFl "SharingRoom$Group" 20 9 3 := ⟨"SharingRoom$SquareGroup", T_Square, 4, "SharingRoom$Group", rfl, by decide, in_Square, w162, Or.inl rfl⟩
theorem fl_Group_20_3 : jFl "SharingRoom$Group" 20 3 3 := ⟨"SharingRoom$CurveGroup", T_Curve, 5, "SharingRoom$Group", rfl, by decide, in_Curve, w162, Or.inl rfl⟩
set_option maxRecDepth 100000 in
theorem w738 : Cond.sameMethod "SharingRoom$Group" "SharingRoom$Group" "commit" "(II)I" ∈ jWS := jm 738 rfl rfl
set_option maxRecDepth 100000 in
theorem w740 : Cond.selects "SharingRoom$SquareGroup" ⟨"SharingRoom$Group", "commit", "(II)I"⟩ ⟨"SharingRoom$Group", "commit", "(II)I"⟩ ∈ jWS := jm 740 rfl rfl
set_option maxRecDepth 100000 in
theorem w737 : Cond.instanceMethod ⟨"SharingRoom$Group", "commit", "(II)I"⟩ ∈ jWS := jm 737 rfl rfl
set_option maxRecDepth 100000 in
theorem w741 : Cond.code ⟨"SharingRoom$Group", "commit", "(II)I"⟩ prog_6_method_4_code 3 (some FieldType.int) ∈ jWS := jm 741 rfl rfl
theorem L0_Group_commit : jL0 y_Group_commit m_Group_commit 2 := ⟨w741, w69, ⟨by decide +kernel, by decide +kernel⟩, by decide +kernel, by decide +kernel⟩
set_option maxRecDepth 100000 in
theorem w739 : Cond.selects "SharingRoom$CurveGroup" ⟨"SharingRoom$Group", "commit", "(II)I"⟩ ⟨"SharingRoom$Group", "commit", "(II)I"⟩ ∈ jWS := jm 739 rfl rfl
set_option maxRecDepth 100000 in
theorem w771 : Cond.methodLink "SharingRoom$Field" 17 ⟨"SharingRoom$Field", "plus", "(II)I"⟩ ∈ jWS := jm 771 rfl rfl
set_option maxRecDepth 100000 in
theorem w767 : Cond.sameMethod "SharingRoom$Field" "SharingRoom$Field" "polynomialAt" "(I[III)I" ∈ jWS := jm 767 rfl rfl
set_option maxRecDepth 100000 in
theorem w768 : Cond.selects "SharingRoom$ByteField" ⟨"SharingRoom$Field", "polynomialAt", "(I[III)I"⟩ ⟨"SharingRoom$Field", "polynomialAt", "(I[III)I"⟩ ∈ jWS := jm 768 rfl rfl
set_option maxRecDepth 100000 in
theorem w766 : Cond.instanceMethod ⟨"SharingRoom$Field", "polynomialAt", "(I[III)I"⟩ ∈ jWS := jm 766 rfl rfl
set_option maxRecDepth 100000 in
theorem w770 : Cond.code ⟨"SharingRoom$Field", "polynomialAt", "(I[III)I"⟩ prog_5_method_7_code 7 (some FieldType.int) ∈ jWS := jm 770 rfl rfl
theorem L0_Field_polynomialAt : jL0 y_Field_polynomialAt m_Field_polynomialAt 4 := ⟨w770, w64, ⟨by decide +kernel, by decide +kernel⟩, by decide +kernel, by decide +kernel⟩
set_option maxRecDepth 100000 in
theorem w769 : Cond.selects "SharingRoom$PrimeField" ⟨"SharingRoom$Field", "polynomialAt", "(I[III)I"⟩ ⟨"SharingRoom$Field", "polynomialAt", "(I[III)I"⟩ ∈ jWS := jm 769 rfl rfl
set_option maxRecDepth 100000 in
theorem w765 : Cond.methodLink "SharingRoom$Room" 292 ⟨"SharingRoom$Field", "polynomialAt", "(I[III)I"⟩ ∈ jWS := jm 765 rfl rfl
set_option maxRecDepth 100000 in
theorem w253 : Cond.fieldLink "SharingRoom$Room" 172 "SharingRoom$Party" "dealt" "Z" ∈ jWS := jm 253 rfl rfl
theorem fl_Room_172_4 : jFl "SharingRoom$Room" 172 4 8 := ⟨"SharingRoom$Party", T_Party, 10, "SharingRoom$Party", rfl, by decide, in_Party, w253, Or.inl rfl⟩
theorem fp_Room_172_4 (nm : String) : jFp "SharingRoom$Room" nm 172 4 8 (.boolean) := ⟨fl_Room_172_4, "SharingRoom$Party", T_Party, 10, ty_Party, rfl, tk_Party, nm_Party, rfl, Or.inl rfl⟩
set_option maxRecDepth 100000 in
theorem w728 : Cond.methodLink "SharingRoom$Room" 176 ⟨"SharingRoom$Board", "write", "(II)V"⟩ ∈ jWS := jm 728 rfl rfl
set_option maxRecDepth 100000 in
theorem w731 : Cond.code ⟨"SharingRoom$Board", "write", "(II)V"⟩ prog_2_method_5_code 3 none ∈ jWS := jm 731 rfl rfl
theorem L0_Board_write : jL0 y_Board_write m_Board_write 2 := ⟨w731, w72, ⟨by decide +kernel, by decide +kernel⟩, by decide +kernel, by decide +kernel⟩
set_option maxRecDepth 100000 in
theorem w729 : Cond.instanceMethod ⟨"SharingRoom$Board", "write", "(II)V"⟩ ∈ jWS := jm 729 rfl rfl
set_option maxRecDepth 100000 in
theorem w730 : Cond.selects "SharingRoom$Board" ⟨"SharingRoom$Board", "write", "(II)V"⟩ ⟨"SharingRoom$Board", "write", "(II)V"⟩ ∈ jWS := jm 730 rfl rfl
set_option maxRecDepth 100000 in
theorem w736 : Cond.methodLink "SharingRoom$Room" 180 ⟨"SharingRoom$Group", "commit", "(II)I"⟩ ∈ jWS := jm 736 rfl rfl
set_option maxRecDepth 100000 in
theorem w241 : Cond.fieldLink "SharingRoom$Room" 138 "SharingRoom$Party" "shown" "[[I" ∈ jWS := jm 241 rfl rfl
theorem fl_Room_138_4 : jFl "SharingRoom$Room" 138 4 2 := ⟨"SharingRoom$Party", T_Party, 10, "SharingRoom$Party", rfl, by decide, in_Party, w241, Or.inl rfl⟩
set_option maxRecDepth 100000 in
theorem w757 : Cond.methodLink "SharingRoom$Room" 183 ⟨"SharingRoom$Board", "writePair", "(I)V"⟩ ∈ jWS := jm 757 rfl rfl
set_option maxRecDepth 100000 in
theorem w760 : Cond.code ⟨"SharingRoom$Board", "writePair", "(I)V"⟩ prog_2_method_6_code 2 none ∈ jWS := jm 760 rfl rfl
theorem L0_Board_writePair : jL0 y_Board_writePair m_Board_writePair 1 := ⟨w760, w72, ⟨by decide +kernel, by decide +kernel⟩, by decide +kernel, by decide +kernel⟩
set_option maxRecDepth 100000 in
theorem w758 : Cond.instanceMethod ⟨"SharingRoom$Board", "writePair", "(I)V"⟩ ∈ jWS := jm 758 rfl rfl
set_option maxRecDepth 100000 in
theorem w759 : Cond.selects "SharingRoom$Board" ⟨"SharingRoom$Board", "writePair", "(I)V"⟩ ⟨"SharingRoom$Board", "writePair", "(I)V"⟩ ∈ jWS := jm 759 rfl rfl
set_option maxRecDepth 100000 in
theorem w761 : Cond.methodLink "SharingRoom$Room" 186 ⟨"SharingRoom$Room", "dealtNumber", "(III)I"⟩ ∈ jWS := jm 761 rfl rfl
set_option maxRecDepth 100000 in
theorem w764 : Cond.code ⟨"SharingRoom$Room", "dealtNumber", "(III)I"⟩ prog_10_method_48_code 5 (some FieldType.int) ∈ jWS := jm 764 rfl rfl
theorem L0_Room_dealtNumber : jL0 y_Room_dealtNumber m_Room_dealtNumber 3 := ⟨w764, w68, ⟨by decide +kernel, by decide +kernel⟩, by decide +kernel, by decide +kernel⟩
set_option maxRecDepth 100000 in
theorem w763 : Cond.instanceMethod ⟨"SharingRoom$Room", "dealtNumber", "(III)I"⟩ ∈ jWS := jm 763 rfl rfl
set_option maxRecDepth 100000 in
theorem w8 : Cond.selects "SharingRoom$Room" ⟨"SharingRoom$Room", "dealtNumber", "(III)I"⟩ ⟨"SharingRoom$Room", "dealtNumber", "(III)I"⟩ ∈ jWS := jm 8 rfl rfl
set_option maxRecDepth 100000 in
theorem w243 : Cond.fieldLink "SharingRoom$Room" 136 "SharingRoom$Party" "numbers" "[[I" ∈ jWS := jm 243 rfl rfl
theorem fl_Room_136_4 : jFl "SharingRoom$Room" 136 4 3 := ⟨"SharingRoom$Party", T_Party, 10, "SharingRoom$Party", rfl, by decide, in_Party, w243, Or.inl rfl⟩
set_option maxRecDepth 100000 in
theorem w772 : Cond.methodLink "SharingRoom$Room" 190 ⟨"SharingRoom$Field", "plus", "(II)I"⟩ ∈ jWS := jm 772 rfl rfl
set_option maxRecDepth 100000 in
theorem w720 : Cond.methodLink "SharingRoom$Room" 165 ⟨"SharingRoom$Party", "has", "(I)Z"⟩ ∈ jWS := jm 720 rfl rfl
set_option maxRecDepth 100000 in
theorem w723 : Cond.code ⟨"SharingRoom$Party", "has", "(I)Z"⟩ prog_7_method_7_code 2 (some FieldType.boolean) ∈ jWS := jm 723 rfl rfl
theorem L0_Party_has : jL0 y_Party_has m_Party_has 1 := ⟨w723, w74, ⟨by decide +kernel, by decide +kernel⟩, by decide +kernel, by decide +kernel⟩
set_option maxRecDepth 100000 in
theorem w721 : Cond.instanceMethod ⟨"SharingRoom$Party", "has", "(I)Z"⟩ ∈ jWS := jm 721 rfl rfl
set_option maxRecDepth 100000 in
theorem w722 : Cond.selects "SharingRoom$Party" ⟨"SharingRoom$Party", "has", "(I)Z"⟩ ⟨"SharingRoom$Party", "has", "(I)Z"⟩ ∈ jWS := jm 722 rfl rfl
set_option maxRecDepth 100000 in
theorem w724 : Cond.methodLink "SharingRoom$Room" 168 ⟨"SharingRoom$Room", "deal", "(I)V"⟩ ∈ jWS := jm 724 rfl rfl
set_option maxRecDepth 100000 in
theorem w727 : Cond.code ⟨"SharingRoom$Room", "deal", "(I)V"⟩ prog_10_method_26_code 6 none ∈ jWS := jm 727 rfl rfl
theorem L0_Room_deal : jL0 y_Room_deal m_Room_deal 1 := ⟨w727, w68, ⟨by decide +kernel, by decide +kernel⟩, by decide +kernel, by decide +kernel⟩
set_option maxRecDepth 100000 in
theorem w726 : Cond.instanceMethod ⟨"SharingRoom$Room", "deal", "(I)V"⟩ ∈ jWS := jm 726 rfl rfl
set_option maxRecDepth 100000 in
theorem w7 : Cond.selects "SharingRoom$Room" ⟨"SharingRoom$Room", "deal", "(I)V"⟩ ⟨"SharingRoom$Room", "deal", "(I)V"⟩ ∈ jWS := jm 7 rfl rfl
set_option maxRecDepth 100000 in
theorem w787 : Cond.sameMethod "SharingRoom$Group" "SharingRoom$Group" "polynomialInExponents" "([III)I" ∈ jWS := jm 787 rfl rfl
set_option maxRecDepth 100000 in
theorem w789 : Cond.selects "SharingRoom$SquareGroup" ⟨"SharingRoom$Group", "polynomialInExponents", "([III)I"⟩ ⟨"SharingRoom$Group", "polynomialInExponents", "([III)I"⟩ ∈ jWS := jm 789 rfl rfl
set_option maxRecDepth 100000 in
theorem w786 : Cond.instanceMethod ⟨"SharingRoom$Group", "polynomialInExponents", "([III)I"⟩ ∈ jWS := jm 786 rfl rfl
set_option maxRecDepth 100000 in
theorem w790 : Cond.code ⟨"SharingRoom$Group", "polynomialInExponents", "([III)I"⟩ prog_6_method_5_code 6 (some FieldType.int) ∈ jWS := jm 790 rfl rfl
theorem L0_Group_polynomialInExponents : jL0 y_Group_polynomialInExponents m_Group_polynomialInExponents 3 := ⟨w790, w69, ⟨by decide +kernel, by decide +kernel⟩, by decide +kernel, by decide +kernel⟩
set_option maxRecDepth 100000 in
theorem w788 : Cond.selects "SharingRoom$CurveGroup" ⟨"SharingRoom$Group", "polynomialInExponents", "([III)I"⟩ ⟨"SharingRoom$Group", "polynomialInExponents", "([III)I"⟩ ∈ jWS := jm 788 rfl rfl
set_option maxRecDepth 100000 in
theorem w785 : Cond.methodLink "SharingRoom$Room" 246 ⟨"SharingRoom$Group", "polynomialInExponents", "([III)I"⟩ ∈ jWS := jm 785 rfl rfl
set_option maxRecDepth 100000 in
theorem w251 : Cond.fieldLink "SharingRoom$Room" 133 "SharingRoom$Party" "complaints" "I" ∈ jWS := jm 251 rfl rfl
theorem fl_Room_133_4 : jFl "SharingRoom$Room" 133 4 7 := ⟨"SharingRoom$Party", T_Party, 10, "SharingRoom$Party", rfl, by decide, in_Party, w251, Or.inl rfl⟩
theorem fp_Room_133_4 (nm : String) : jFp "SharingRoom$Room" nm 133 4 7 (.int) := ⟨fl_Room_133_4, "SharingRoom$Party", T_Party, 10, ty_Party, rfl, tk_Party, nm_Party, rfl, Or.inl rfl⟩
set_option maxRecDepth 100000 in
theorem w791 : Cond.methodLink "SharingRoom$Room" 200 ⟨"SharingRoom$Board", "writeByte", "(I)V"⟩ ∈ jWS := jm 791 rfl rfl
set_option maxRecDepth 100000 in
theorem w781 : Cond.methodLink "SharingRoom$Room" 196 ⟨"SharingRoom$Room", "fits", "(IIII)Z"⟩ ∈ jWS := jm 781 rfl rfl
set_option maxRecDepth 100000 in
theorem w784 : Cond.code ⟨"SharingRoom$Room", "fits", "(IIII)Z"⟩ prog_10_method_49_code 6 (some FieldType.boolean) ∈ jWS := jm 784 rfl rfl
theorem L0_Room_fits : jL0 y_Room_fits m_Room_fits 4 := ⟨w784, w68, ⟨by decide +kernel, by decide +kernel⟩, by decide +kernel, by decide +kernel⟩
set_option maxRecDepth 100000 in
theorem w783 : Cond.instanceMethod ⟨"SharingRoom$Room", "fits", "(IIII)Z"⟩ ∈ jWS := jm 783 rfl rfl
set_option maxRecDepth 100000 in
theorem w11 : Cond.selects "SharingRoom$Room" ⟨"SharingRoom$Room", "fits", "(IIII)Z"⟩ ⟨"SharingRoom$Room", "fits", "(IIII)Z"⟩ ∈ jWS := jm 11 rfl rfl
set_option maxRecDepth 100000 in
theorem w777 : Cond.methodLink "SharingRoom$Room" 193 ⟨"SharingRoom$Room", "complain", "(I)V"⟩ ∈ jWS := jm 777 rfl rfl
set_option maxRecDepth 100000 in
theorem w780 : Cond.code ⟨"SharingRoom$Room", "complain", "(I)V"⟩ prog_10_method_28_code 5 none ∈ jWS := jm 780 rfl rfl
theorem L0_Room_complain : jL0 y_Room_complain m_Room_complain 1 := ⟨w780, w68, ⟨by decide +kernel, by decide +kernel⟩, by decide +kernel, by decide +kernel⟩
set_option maxRecDepth 100000 in
theorem w779 : Cond.instanceMethod ⟨"SharingRoom$Room", "complain", "(I)V"⟩ ∈ jWS := jm 779 rfl rfl
set_option maxRecDepth 100000 in
theorem w10 : Cond.selects "SharingRoom$Room" ⟨"SharingRoom$Room", "complain", "(I)V"⟩ ⟨"SharingRoom$Room", "complain", "(I)V"⟩ ∈ jWS := jm 10 rfl rfl
set_option maxRecDepth 100000 in
theorem wt804 : Cond.methodLinkNest "SharingRoom$Party" 55 ⟨"SharingRoom", "bit", "(I)I"⟩ "SharingRoom" ∈ lw_tbl := List.mem_of_getElem? (i := 804) rfl
set_option maxRecDepth 100000 in
theorem w800 : Cond.methodLink "SharingRoom$Room" 206 ⟨"SharingRoom$Party", "isComplainedOf", "(I)Z"⟩ ∈ jWS := jm 800 rfl rfl
set_option maxRecDepth 100000 in
theorem w803 : Cond.code ⟨"SharingRoom$Party", "isComplainedOf", "(I)Z"⟩ prog_7_method_8_code 2 (some FieldType.boolean) ∈ jWS := jm 803 rfl rfl
theorem L0_Party_isComplainedOf : jL0 y_Party_isComplainedOf m_Party_isComplainedOf 1 := ⟨w803, w74, ⟨by decide +kernel, by decide +kernel⟩, by decide +kernel, by decide +kernel⟩
set_option maxRecDepth 100000 in
theorem w801 : Cond.instanceMethod ⟨"SharingRoom$Party", "isComplainedOf", "(I)Z"⟩ ∈ jWS := jm 801 rfl rfl
set_option maxRecDepth 100000 in
theorem w802 : Cond.selects "SharingRoom$Party" ⟨"SharingRoom$Party", "isComplainedOf", "(I)Z"⟩ ⟨"SharingRoom$Party", "isComplainedOf", "(I)Z"⟩ ∈ jWS := jm 802 rfl rfl
set_option maxRecDepth 100000 in
theorem w245 : Cond.fieldLink "SharingRoom$Room" 209 "SharingRoom$Party" "answers" "[[I" ∈ jWS := jm 245 rfl rfl
theorem fl_Room_209_4 : jFl "SharingRoom$Room" 209 4 4 := ⟨"SharingRoom$Party", T_Party, 10, "SharingRoom$Party", rfl, by decide, in_Party, w245, Or.inl rfl⟩
set_option maxRecDepth 100000 in
theorem w805 : Cond.methodLink "SharingRoom$Room" 212 ⟨"SharingRoom$Room", "writeNumbers", "(III)V"⟩ ∈ jWS := jm 805 rfl rfl
set_option maxRecDepth 100000 in
theorem w808 : Cond.code ⟨"SharingRoom$Room", "writeNumbers", "(III)V"⟩ prog_10_method_50_code 4 none ∈ jWS := jm 808 rfl rfl
theorem L0_Room_writeNumbers : jL0 y_Room_writeNumbers m_Room_writeNumbers 3 := ⟨w808, w68, ⟨by decide +kernel, by decide +kernel⟩, by decide +kernel, by decide +kernel⟩
set_option maxRecDepth 100000 in
theorem w807 : Cond.instanceMethod ⟨"SharingRoom$Room", "writeNumbers", "(III)V"⟩ ∈ jWS := jm 807 rfl rfl
set_option maxRecDepth 100000 in
theorem w14 : Cond.selects "SharingRoom$Room" ⟨"SharingRoom$Room", "writeNumbers", "(III)V"⟩ ⟨"SharingRoom$Room", "writeNumbers", "(III)V"⟩ ∈ jWS := jm 14 rfl rfl
set_option maxRecDepth 100000 in
theorem w796 : Cond.methodLink "SharingRoom$Room" 203 ⟨"SharingRoom$Room", "answer", "(I)V"⟩ ∈ jWS := jm 796 rfl rfl
set_option maxRecDepth 100000 in
theorem w799 : Cond.code ⟨"SharingRoom$Room", "answer", "(I)V"⟩ prog_10_method_30_code 6 none ∈ jWS := jm 799 rfl rfl
theorem L0_Room_answer : jL0 y_Room_answer m_Room_answer 1 := ⟨w799, w68, ⟨by decide +kernel, by decide +kernel⟩, by decide +kernel, by decide +kernel⟩
set_option maxRecDepth 100000 in
theorem w798 : Cond.instanceMethod ⟨"SharingRoom$Room", "answer", "(I)V"⟩ ∈ jWS := jm 798 rfl rfl
set_option maxRecDepth 100000 in
theorem w13 : Cond.selects "SharingRoom$Room" ⟨"SharingRoom$Room", "answer", "(I)V"⟩ ⟨"SharingRoom$Room", "answer", "(I)V"⟩ ∈ jWS := jm 13 rfl rfl
set_option maxRecDepth 100000 in
theorem w820 : Cond.constant "java/lang/Integer" 265 (1431655765 : Int32) ∈ jWS := jm 820 rfl rfl
set_option maxRecDepth 100000 in
theorem w821 : Cond.constant "java/lang/Integer" 266 (858993459 : Int32) ∈ jWS := jm 821 rfl rfl
set_option maxRecDepth 100000 in
theorem w822 : Cond.constant "java/lang/Integer" 267 (252645135 : Int32) ∈ jWS := jm 822 rfl rfl
set_option maxRecDepth 100000 in
theorem w817 : Cond.methodLink "SharingRoom$Room" 66 ⟨"java/lang/Integer", "bitCount", "(I)I"⟩ ∈ jWS := jm 817 rfl rfl
set_option maxRecDepth 100000 in
theorem w819 : Cond.code ⟨"java/lang/Integer", "bitCount", "(I)I"⟩ prog_19_method_49_code 1 (some FieldType.int) ∈ jWS := jm 819 rfl rfl
set_option maxRecDepth 100000 in
theorem w84 : Cond.initialized "java/lang/Integer" ∈ jWS := jm 84 rfl rfl
theorem L0_Integer_bitCount : jL0 y_Integer_bitCount m_Integer_bitCount 1 := ⟨w819, w84, ⟨by decide +kernel, by decide +kernel⟩, by decide +kernel, by decide +kernel⟩
set_option maxRecDepth 100000 in
theorem w818 : Cond.static ⟨"java/lang/Integer", "bitCount", "(I)I"⟩ ∈ jWS := jm 818 rfl rfl
set_option maxRecDepth 100000 in
theorem w823 : Cond.methodLink "SharingRoom$Room" 225 ⟨"SharingRoom$Party", "hasAnswered", "(I)Z"⟩ ∈ jWS := jm 823 rfl rfl
set_option maxRecDepth 100000 in
theorem w826 : Cond.code ⟨"SharingRoom$Party", "hasAnswered", "(I)Z"⟩ prog_7_method_9_code 2 (some FieldType.boolean) ∈ jWS := jm 826 rfl rfl
theorem L0_Party_hasAnswered : jL0 y_Party_hasAnswered m_Party_hasAnswered 1 := ⟨w826, w74, ⟨by decide +kernel, by decide +kernel⟩, by decide +kernel, by decide +kernel⟩
set_option maxRecDepth 100000 in
theorem w824 : Cond.instanceMethod ⟨"SharingRoom$Party", "hasAnswered", "(I)Z"⟩ ∈ jWS := jm 824 rfl rfl
set_option maxRecDepth 100000 in
theorem w825 : Cond.selects "SharingRoom$Party" ⟨"SharingRoom$Party", "hasAnswered", "(I)Z"⟩ ⟨"SharingRoom$Party", "hasAnswered", "(I)Z"⟩ ∈ jWS := jm 825 rfl rfl
set_option maxRecDepth 100000 in
theorem w835 : Cond.methodLink "SharingRoom$Room" 228 ⟨"SharingRoom$Room", "isQualified", "(I)Z"⟩ ∈ jWS := jm 835 rfl rfl
set_option maxRecDepth 100000 in
theorem w838 : Cond.code ⟨"SharingRoom$Room", "isQualified", "(I)Z"⟩ prog_10_method_51_code 2 (some FieldType.boolean) ∈ jWS := jm 838 rfl rfl
theorem L0_Room_isQualified : jL0 y_Room_isQualified m_Room_isQualified 1 := ⟨w838, w68, ⟨by decide +kernel, by decide +kernel⟩, by decide +kernel, by decide +kernel⟩
set_option maxRecDepth 100000 in
theorem w837 : Cond.instanceMethod ⟨"SharingRoom$Room", "isQualified", "(I)Z"⟩ ∈ jWS := jm 837 rfl rfl
set_option maxRecDepth 100000 in
theorem w19 : Cond.selects "SharingRoom$Room" ⟨"SharingRoom$Room", "isQualified", "(I)Z"⟩ ⟨"SharingRoom$Room", "isQualified", "(I)Z"⟩ ∈ jWS := jm 19 rfl rfl
set_option maxRecDepth 100000 in
theorem w247 : Cond.fieldLink "SharingRoom$Room" 141 "SharingRoom$Party" "shares" "[I" ∈ jWS := jm 247 rfl rfl
theorem fl_Room_141_4 : jFl "SharingRoom$Room" 141 4 5 := ⟨"SharingRoom$Party", T_Party, 10, "SharingRoom$Party", rfl, by decide, in_Party, w247, Or.inl rfl⟩
set_option maxRecDepth 100000 in
theorem w813 : Cond.methodLink "SharingRoom$Room" 216 ⟨"SharingRoom$Room", "isOut", "(I)Z"⟩ ∈ jWS := jm 813 rfl rfl
set_option maxRecDepth 100000 in
theorem w816 : Cond.code ⟨"SharingRoom$Room", "isOut", "(I)Z"⟩ prog_10_method_32_code 4 (some FieldType.boolean) ∈ jWS := jm 816 rfl rfl
theorem L0_Room_isOut : jL0 y_Room_isOut m_Room_isOut 1 := ⟨w816, w68, ⟨by decide +kernel, by decide +kernel⟩, by decide +kernel, by decide +kernel⟩
set_option maxRecDepth 100000 in
theorem w815 : Cond.instanceMethod ⟨"SharingRoom$Room", "isOut", "(I)Z"⟩ ∈ jWS := jm 815 rfl rfl
set_option maxRecDepth 100000 in
theorem w16 : Cond.selects "SharingRoom$Room" ⟨"SharingRoom$Room", "isOut", "(I)Z"⟩ ⟨"SharingRoom$Room", "isOut", "(I)Z"⟩ ∈ jWS := jm 16 rfl rfl
set_option maxRecDepth 100000 in
theorem w827 : Cond.methodLink "SharingRoom$Room" 219 ⟨"SharingRoom$Room", "takeAnswers", "(I)V"⟩ ∈ jWS := jm 827 rfl rfl
set_option maxRecDepth 100000 in
theorem w830 : Cond.code ⟨"SharingRoom$Room", "takeAnswers", "(I)V"⟩ prog_10_method_33_code 4 none ∈ jWS := jm 830 rfl rfl
theorem L0_Room_takeAnswers : jL0 y_Room_takeAnswers m_Room_takeAnswers 1 := ⟨w830, w68, ⟨by decide +kernel, by decide +kernel⟩, by decide +kernel, by decide +kernel⟩
set_option maxRecDepth 100000 in
theorem w829 : Cond.instanceMethod ⟨"SharingRoom$Room", "takeAnswers", "(I)V"⟩ ∈ jWS := jm 829 rfl rfl
set_option maxRecDepth 100000 in
theorem w17 : Cond.selects "SharingRoom$Room" ⟨"SharingRoom$Room", "takeAnswers", "(I)V"⟩ ⟨"SharingRoom$Room", "takeAnswers", "(I)V"⟩ ∈ jWS := jm 17 rfl rfl
set_option maxRecDepth 100000 in
theorem w831 : Cond.methodLink "SharingRoom$Room" 222 ⟨"SharingRoom$Room", "sumUp", "(II)V"⟩ ∈ jWS := jm 831 rfl rfl
set_option maxRecDepth 100000 in
theorem w834 : Cond.code ⟨"SharingRoom$Room", "sumUp", "(II)V"⟩ prog_10_method_34_code 5 none ∈ jWS := jm 834 rfl rfl
theorem L0_Room_sumUp : jL0 y_Room_sumUp m_Room_sumUp 2 := ⟨w834, w68, ⟨by decide +kernel, by decide +kernel⟩, by decide +kernel, by decide +kernel⟩
set_option maxRecDepth 100000 in
theorem w833 : Cond.instanceMethod ⟨"SharingRoom$Room", "sumUp", "(II)V"⟩ ∈ jWS := jm 833 rfl rfl
set_option maxRecDepth 100000 in
theorem w18 : Cond.selects "SharingRoom$Room" ⟨"SharingRoom$Room", "sumUp", "(II)V"⟩ ⟨"SharingRoom$Room", "sumUp", "(II)V"⟩ ∈ jWS := jm 18 rfl rfl
set_option maxRecDepth 100000 in
theorem w255 : Cond.fieldLink "SharingRoom$Room" 234 "SharingRoom$Party" "extracted" "Z" ∈ jWS := jm 255 rfl rfl
theorem fl_Room_234_4 : jFl "SharingRoom$Room" 234 4 9 := ⟨"SharingRoom$Party", T_Party, 10, "SharingRoom$Party", rfl, by decide, in_Party, w255, Or.inl rfl⟩
theorem fp_Room_234_4 (nm : String) : jFp "SharingRoom$Room" nm 234 4 9 (.boolean) := ⟨fl_Room_234_4, "SharingRoom$Party", T_Party, 10, ty_Party, rfl, tk_Party, nm_Party, rfl, Or.inl rfl⟩
set_option maxRecDepth 100000 in
theorem w161 : Cond.fieldLink "SharingRoom$Room" 237 "SharingRoom$Group" "g" "I" ∈ jWS := jm 161 rfl rfl
theorem fl_Room_237_9 : jFl "SharingRoom$Room" 237 9 2 := ⟨"SharingRoom$SquareGroup", T_Square, 4, "SharingRoom$Group", rfl, by decide, in_Square, w161, Or.inl rfl⟩
theorem fl_Room_237_3 : jFl "SharingRoom$Room" 237 3 2 := ⟨"SharingRoom$CurveGroup", T_Curve, 5, "SharingRoom$Group", rfl, by decide, in_Curve, w161, Or.inl rfl⟩
set_option maxRecDepth 100000 in
theorem w847 : Cond.methodLink "SharingRoom$Room" 240 ⟨"SharingRoom$Group", "power", "(II)I"⟩ ∈ jWS := jm 847 rfl rfl
set_option maxRecDepth 100000 in
theorem w843 : Cond.methodLink "SharingRoom$Room" 231 ⟨"SharingRoom$Room", "extract", "(I)V"⟩ ∈ jWS := jm 843 rfl rfl
set_option maxRecDepth 100000 in
theorem w846 : Cond.code ⟨"SharingRoom$Room", "extract", "(I)V"⟩ prog_10_method_36_code 5 none ∈ jWS := jm 846 rfl rfl
theorem L0_Room_extract : jL0 y_Room_extract m_Room_extract 1 := ⟨w846, w68, ⟨by decide +kernel, by decide +kernel⟩, by decide +kernel, by decide +kernel⟩
set_option maxRecDepth 100000 in
theorem w845 : Cond.instanceMethod ⟨"SharingRoom$Room", "extract", "(I)V"⟩ ∈ jWS := jm 845 rfl rfl
set_option maxRecDepth 100000 in
theorem w21 : Cond.selects "SharingRoom$Room" ⟨"SharingRoom$Room", "extract", "(I)V"⟩ ⟨"SharingRoom$Room", "extract", "(I)V"⟩ ∈ jWS := jm 21 rfl rfl
set_option maxRecDepth 100000 in
theorem w852 : Cond.methodLink "SharingRoom$Room" 243 ⟨"SharingRoom$Room", "accuse", "(I)V"⟩ ∈ jWS := jm 852 rfl rfl
set_option maxRecDepth 100000 in
theorem w855 : Cond.code ⟨"SharingRoom$Room", "accuse", "(I)V"⟩ prog_10_method_38_code 6 none ∈ jWS := jm 855 rfl rfl
theorem L0_Room_accuse : jL0 y_Room_accuse m_Room_accuse 1 := ⟨w855, w68, ⟨by decide +kernel, by decide +kernel⟩, by decide +kernel, by decide +kernel⟩
set_option maxRecDepth 100000 in
theorem w854 : Cond.instanceMethod ⟨"SharingRoom$Room", "accuse", "(I)V"⟩ ∈ jWS := jm 854 rfl rfl
set_option maxRecDepth 100000 in
theorem w23 : Cond.selects "SharingRoom$Room" ⟨"SharingRoom$Room", "accuse", "(I)V"⟩ ⟨"SharingRoom$Room", "accuse", "(I)V"⟩ ∈ jWS := jm 23 rfl rfl
set_option maxRecDepth 100000 in
theorem w280 : Cond.fieldLink "SharingRoom$Room" 50 "SharingRoom$Room" "through" "LSharingRoom$Points;" ∈ jWS := jm 280 rfl rfl
theorem fl_Room_50_7 : jFl "SharingRoom$Room" 50 7 3 := ⟨"SharingRoom$Room", T_Room, 15, "SharingRoom$Room", rfl, by decide, in_Room, w280, Or.inl rfl⟩
set_option maxRecDepth 100000 in
theorem w865 : Cond.methodLink "SharingRoom$Room" 261 ⟨"SharingRoom$Points", "clear", "(LSharingRoom$Field;)V"⟩ ∈ jWS := jm 865 rfl rfl
set_option maxRecDepth 100000 in
theorem w866 : Cond.methodLink "SharingRoom$Room" 256 ⟨"SharingRoom$Points", "size", "()I"⟩ ∈ jWS := jm 866 rfl rfl
set_option maxRecDepth 100000 in
theorem w867 : Cond.methodLink "SharingRoom$Room" 263 ⟨"SharingRoom$Points", "add", "(II)V"⟩ ∈ jWS := jm 867 rfl rfl
set_option maxRecDepth 100000 in
theorem w861 : Cond.methodLink "SharingRoom$Room" 253 ⟨"SharingRoom$Room", "collectNumbers", "(I)V"⟩ ∈ jWS := jm 861 rfl rfl
set_option maxRecDepth 100000 in
theorem w864 : Cond.code ⟨"SharingRoom$Room", "collectNumbers", "(I)V"⟩ prog_10_method_40_code 6 none ∈ jWS := jm 864 rfl rfl
theorem L0_Room_collectNumbers : jL0 y_Room_collectNumbers m_Room_collectNumbers 1 := ⟨w864, w68, ⟨by decide +kernel, by decide +kernel⟩, by decide +kernel, by decide +kernel⟩
set_option maxRecDepth 100000 in
theorem w863 : Cond.instanceMethod ⟨"SharingRoom$Room", "collectNumbers", "(I)V"⟩ ∈ jWS := jm 863 rfl rfl
set_option maxRecDepth 100000 in
theorem w25 : Cond.selects "SharingRoom$Room" ⟨"SharingRoom$Room", "collectNumbers", "(I)V"⟩ ⟨"SharingRoom$Room", "collectNumbers", "(I)V"⟩ ∈ jWS := jm 25 rfl rfl
set_option maxRecDepth 100000 in
theorem w868 : Cond.methodLink "SharingRoom$Room" 258 ⟨"SharingRoom$Points", "valueAt", "(I)I"⟩ ∈ jWS := jm 868 rfl rfl
set_option maxRecDepth 100000 in
theorem w860 : Cond.methodLink "SharingRoom$Room" 250 ⟨"SharingRoom$Group", "product", "(II)I"⟩ ∈ jWS := jm 860 rfl rfl
set_option maxRecDepth 100000 in
theorem w716 : Cond.methodLink "SharingRoom$Room" 144 ⟨"SharingRoom$Room", "dealAll", "()V"⟩ ∈ jWS := jm 716 rfl rfl
set_option maxRecDepth 100000 in
theorem w719 : Cond.code ⟨"SharingRoom$Room", "dealAll", "()V"⟩ prog_10_method_25_code 2 none ∈ jWS := jm 719 rfl rfl
theorem L0_Room_dealAll : jL0 y_Room_dealAll m_Room_dealAll 0 := ⟨w719, w68, ⟨by decide +kernel, by decide +kernel⟩, by decide +kernel, by decide +kernel⟩
set_option maxRecDepth 100000 in
theorem w718 : Cond.instanceMethod ⟨"SharingRoom$Room", "dealAll", "()V"⟩ ∈ jWS := jm 718 rfl rfl
set_option maxRecDepth 100000 in
theorem w6 : Cond.selects "SharingRoom$Room" ⟨"SharingRoom$Room", "dealAll", "()V"⟩ ⟨"SharingRoom$Room", "dealAll", "()V"⟩ ∈ jWS := jm 6 rfl rfl
set_option maxRecDepth 100000 in
theorem w773 : Cond.methodLink "SharingRoom$Room" 147 ⟨"SharingRoom$Room", "complainAll", "()V"⟩ ∈ jWS := jm 773 rfl rfl
set_option maxRecDepth 100000 in
theorem w776 : Cond.code ⟨"SharingRoom$Room", "complainAll", "()V"⟩ prog_10_method_27_code 2 none ∈ jWS := jm 776 rfl rfl
theorem L0_Room_complainAll : jL0 y_Room_complainAll m_Room_complainAll 0 := ⟨w776, w68, ⟨by decide +kernel, by decide +kernel⟩, by decide +kernel, by decide +kernel⟩
set_option maxRecDepth 100000 in
theorem w775 : Cond.instanceMethod ⟨"SharingRoom$Room", "complainAll", "()V"⟩ ∈ jWS := jm 775 rfl rfl
set_option maxRecDepth 100000 in
theorem w9 : Cond.selects "SharingRoom$Room" ⟨"SharingRoom$Room", "complainAll", "()V"⟩ ⟨"SharingRoom$Room", "complainAll", "()V"⟩ ∈ jWS := jm 9 rfl rfl
set_option maxRecDepth 100000 in
theorem w792 : Cond.methodLink "SharingRoom$Room" 150 ⟨"SharingRoom$Room", "answerAll", "()V"⟩ ∈ jWS := jm 792 rfl rfl
set_option maxRecDepth 100000 in
theorem w795 : Cond.code ⟨"SharingRoom$Room", "answerAll", "()V"⟩ prog_10_method_29_code 2 none ∈ jWS := jm 795 rfl rfl
theorem L0_Room_answerAll : jL0 y_Room_answerAll m_Room_answerAll 0 := ⟨w795, w68, ⟨by decide +kernel, by decide +kernel⟩, by decide +kernel, by decide +kernel⟩
set_option maxRecDepth 100000 in
theorem w794 : Cond.instanceMethod ⟨"SharingRoom$Room", "answerAll", "()V"⟩ ∈ jWS := jm 794 rfl rfl
set_option maxRecDepth 100000 in
theorem w12 : Cond.selects "SharingRoom$Room" ⟨"SharingRoom$Room", "answerAll", "()V"⟩ ⟨"SharingRoom$Room", "answerAll", "()V"⟩ ∈ jWS := jm 12 rfl rfl
set_option maxRecDepth 100000 in
theorem w809 : Cond.methodLink "SharingRoom$Room" 153 ⟨"SharingRoom$Room", "judgeAll", "()V"⟩ ∈ jWS := jm 809 rfl rfl
set_option maxRecDepth 100000 in
theorem w812 : Cond.code ⟨"SharingRoom$Room", "judgeAll", "()V"⟩ prog_10_method_31_code 2 none ∈ jWS := jm 812 rfl rfl
theorem L0_Room_judgeAll : jL0 y_Room_judgeAll m_Room_judgeAll 0 := ⟨w812, w68, ⟨by decide +kernel, by decide +kernel⟩, by decide +kernel, by decide +kernel⟩
set_option maxRecDepth 100000 in
theorem w811 : Cond.instanceMethod ⟨"SharingRoom$Room", "judgeAll", "()V"⟩ ∈ jWS := jm 811 rfl rfl
set_option maxRecDepth 100000 in
theorem w15 : Cond.selects "SharingRoom$Room" ⟨"SharingRoom$Room", "judgeAll", "()V"⟩ ⟨"SharingRoom$Room", "judgeAll", "()V"⟩ ∈ jWS := jm 15 rfl rfl
set_option maxRecDepth 100000 in
theorem w839 : Cond.methodLink "SharingRoom$Room" 156 ⟨"SharingRoom$Room", "extractAll", "()V"⟩ ∈ jWS := jm 839 rfl rfl
set_option maxRecDepth 100000 in
theorem w842 : Cond.code ⟨"SharingRoom$Room", "extractAll", "()V"⟩ prog_10_method_35_code 2 none ∈ jWS := jm 842 rfl rfl
theorem L0_Room_extractAll : jL0 y_Room_extractAll m_Room_extractAll 0 := ⟨w842, w68, ⟨by decide +kernel, by decide +kernel⟩, by decide +kernel, by decide +kernel⟩
set_option maxRecDepth 100000 in
theorem w841 : Cond.instanceMethod ⟨"SharingRoom$Room", "extractAll", "()V"⟩ ∈ jWS := jm 841 rfl rfl
set_option maxRecDepth 100000 in
theorem w20 : Cond.selects "SharingRoom$Room" ⟨"SharingRoom$Room", "extractAll", "()V"⟩ ⟨"SharingRoom$Room", "extractAll", "()V"⟩ ∈ jWS := jm 20 rfl rfl
set_option maxRecDepth 100000 in
theorem w848 : Cond.methodLink "SharingRoom$Room" 159 ⟨"SharingRoom$Room", "accuseAll", "()V"⟩ ∈ jWS := jm 848 rfl rfl
set_option maxRecDepth 100000 in
theorem w851 : Cond.code ⟨"SharingRoom$Room", "accuseAll", "()V"⟩ prog_10_method_37_code 2 none ∈ jWS := jm 851 rfl rfl
theorem L0_Room_accuseAll : jL0 y_Room_accuseAll m_Room_accuseAll 0 := ⟨w851, w68, ⟨by decide +kernel, by decide +kernel⟩, by decide +kernel, by decide +kernel⟩
set_option maxRecDepth 100000 in
theorem w850 : Cond.instanceMethod ⟨"SharingRoom$Room", "accuseAll", "()V"⟩ ∈ jWS := jm 850 rfl rfl
set_option maxRecDepth 100000 in
theorem w22 : Cond.selects "SharingRoom$Room" ⟨"SharingRoom$Room", "accuseAll", "()V"⟩ ⟨"SharingRoom$Room", "accuseAll", "()V"⟩ ∈ jWS := jm 22 rfl rfl
set_option maxRecDepth 100000 in
theorem w856 : Cond.methodLink "SharingRoom$Room" 162 ⟨"SharingRoom$Room", "openAll", "()V"⟩ ∈ jWS := jm 856 rfl rfl
set_option maxRecDepth 100000 in
theorem w859 : Cond.code ⟨"SharingRoom$Room", "openAll", "()V"⟩ prog_10_method_39_code 3 none ∈ jWS := jm 859 rfl rfl
theorem L0_Room_openAll : jL0 y_Room_openAll m_Room_openAll 0 := ⟨w859, w68, ⟨by decide +kernel, by decide +kernel⟩, by decide +kernel, by decide +kernel⟩
set_option maxRecDepth 100000 in
theorem w858 : Cond.instanceMethod ⟨"SharingRoom$Room", "openAll", "()V"⟩ ∈ jWS := jm 858 rfl rfl
set_option maxRecDepth 100000 in
theorem w24 : Cond.selects "SharingRoom$Room" ⟨"SharingRoom$Room", "openAll", "()V"⟩ ⟨"SharingRoom$Room", "openAll", "()V"⟩ ∈ jWS := jm 24 rfl rfl
set_option maxRecDepth 100000 in
theorem w712 : Cond.methodLink "SharingRoom" 150 ⟨"SharingRoom$Room", "advance", "()I"⟩ ∈ jWS := jm 712 rfl rfl
set_option maxRecDepth 100000 in
theorem w715 : Cond.code ⟨"SharingRoom$Room", "advance", "()I"⟩ prog_10_method_24_code 1 (some FieldType.int) ∈ jWS := jm 715 rfl rfl
theorem L0_Room_advance : jL0 y_Room_advance m_Room_advance 0 := ⟨w715, w68, ⟨by decide +kernel, by decide +kernel⟩, by decide +kernel, by decide +kernel⟩
set_option maxRecDepth 100000 in
theorem w713 : Cond.instanceMethod ⟨"SharingRoom$Room", "advance", "()I"⟩ ∈ jWS := jm 713 rfl rfl
set_option maxRecDepth 100000 in
theorem w714 : Cond.selects "SharingRoom$Room" ⟨"SharingRoom$Room", "advance", "()I"⟩ ⟨"SharingRoom$Room", "advance", "()I"⟩ ∈ jWS := jm 714 rfl rfl
set_option maxRecDepth 100000 in
theorem wt711 : Cond.stringRef "SharingRoom" 148 "no round to come" ∈ lw_tbl := List.mem_of_getElem? (i := 711) rfl
set_option maxRecDepth 100000 in
theorem w876 : Cond.methodLink "SharingRoom" 165 ⟨"SharingRoom$Room", "complaintBits", "(I)I"⟩ ∈ jWS := jm 876 rfl rfl
set_option maxRecDepth 100000 in
theorem w879 : Cond.code ⟨"SharingRoom$Room", "complaintBits", "(I)I"⟩ prog_10_method_20_code 2 (some FieldType.int) ∈ jWS := jm 879 rfl rfl
theorem L0_Room_complaintBits : jL0 y_Room_complaintBits m_Room_complaintBits 1 := ⟨w879, w68, ⟨by decide +kernel, by decide +kernel⟩, by decide +kernel, by decide +kernel⟩
set_option maxRecDepth 100000 in
theorem w877 : Cond.instanceMethod ⟨"SharingRoom$Room", "complaintBits", "(I)I"⟩ ∈ jWS := jm 877 rfl rfl
set_option maxRecDepth 100000 in
theorem w878 : Cond.selects "SharingRoom$Room" ⟨"SharingRoom$Room", "complaintBits", "(I)I"⟩ ⟨"SharingRoom$Room", "complaintBits", "(I)I"⟩ ∈ jWS := jm 878 rfl rfl
set_option maxRecDepth 100000 in
theorem w887 : Cond.methodLink "SharingRoom" 168 ⟨"SharingRoom$Room", "numberOf", "(III)I"⟩ ∈ jWS := jm 887 rfl rfl
set_option maxRecDepth 100000 in
theorem w890 : Cond.code ⟨"SharingRoom$Room", "numberOf", "(III)I"⟩ prog_10_method_21_code 4 (some FieldType.int) ∈ jWS := jm 890 rfl rfl
theorem L0_Room_numberOf : jL0 y_Room_numberOf m_Room_numberOf 3 := ⟨w890, w68, ⟨by decide +kernel, by decide +kernel⟩, by decide +kernel, by decide +kernel⟩
set_option maxRecDepth 100000 in
theorem w888 : Cond.instanceMethod ⟨"SharingRoom$Room", "numberOf", "(III)I"⟩ ∈ jWS := jm 888 rfl rfl
set_option maxRecDepth 100000 in
theorem w889 : Cond.selects "SharingRoom$Room" ⟨"SharingRoom$Room", "numberOf", "(III)I"⟩ ⟨"SharingRoom$Room", "numberOf", "(III)I"⟩ ∈ jWS := jm 889 rfl rfl
set_option maxRecDepth 100000 in
theorem w898 : Cond.methodLink "SharingRoom" 172 ⟨"SharingRoom$Room", "elementOf", "(III)I"⟩ ∈ jWS := jm 898 rfl rfl
set_option maxRecDepth 100000 in
theorem w901 : Cond.code ⟨"SharingRoom$Room", "elementOf", "(III)I"⟩ prog_10_method_22_code 4 (some FieldType.int) ∈ jWS := jm 901 rfl rfl
theorem L0_Room_elementOf : jL0 y_Room_elementOf m_Room_elementOf 3 := ⟨w901, w68, ⟨by decide +kernel, by decide +kernel⟩, by decide +kernel, by decide +kernel⟩
set_option maxRecDepth 100000 in
theorem w899 : Cond.instanceMethod ⟨"SharingRoom$Room", "elementOf", "(III)I"⟩ ∈ jWS := jm 899 rfl rfl
set_option maxRecDepth 100000 in
theorem w900 : Cond.selects "SharingRoom$Room" ⟨"SharingRoom$Room", "elementOf", "(III)I"⟩ ⟨"SharingRoom$Room", "elementOf", "(III)I"⟩ ∈ jWS := jm 900 rfl rfl
set_option maxRecDepth 100000 in
theorem w909 : Cond.methodLink "SharingRoom" 175 ⟨"SharingRoom$Room", "shareOf", "(II)I"⟩ ∈ jWS := jm 909 rfl rfl
set_option maxRecDepth 100000 in
theorem w912 : Cond.code ⟨"SharingRoom$Room", "shareOf", "(II)I"⟩ prog_10_method_23_code 3 (some FieldType.int) ∈ jWS := jm 912 rfl rfl
theorem L0_Room_shareOf : jL0 y_Room_shareOf m_Room_shareOf 2 := ⟨w912, w68, ⟨by decide +kernel, by decide +kernel⟩, by decide +kernel, by decide +kernel⟩
set_option maxRecDepth 100000 in
theorem w910 : Cond.instanceMethod ⟨"SharingRoom$Room", "shareOf", "(II)I"⟩ ∈ jWS := jm 910 rfl rfl
set_option maxRecDepth 100000 in
theorem w911 : Cond.selects "SharingRoom$Room" ⟨"SharingRoom$Room", "shareOf", "(II)I"⟩ ⟨"SharingRoom$Room", "shareOf", "(II)I"⟩ ∈ jWS := jm 911 rfl rfl
set_option maxRecDepth 100000 in
theorem ex_SR_190 : jEx "SharingRoom" 190 "java/lang/IndexOutOfBoundsException" := by
  unfold jEx
  decide +kernel
theorem fit_IndexOutOfBoundsException : Bundle.fit "java/lang/IndexOutOfBoundsException" = true := by decide +kernel
set_option maxRecDepth 100000 in
theorem wt921 : Cond.classLink "SharingRoom" 186 "java/lang/IndexOutOfBoundsException" ∈ lw_tbl := List.mem_of_getElem? (i := 921) rfl
set_option maxRecDepth 100000 in
theorem wt922 : Cond.instantiable "java/lang/IndexOutOfBoundsException" 6 ∈ lw_tbl := List.mem_of_getElem? (i := 922) rfl
set_option maxRecDepth 100000 in
theorem wt85 : Cond.initialized "java/lang/IndexOutOfBoundsException" ∈ lw_tbl := List.mem_of_getElem? (i := 85) rfl
set_option maxRecDepth 100000 in
theorem wt930 : Cond.stringRef "SharingRoom" 188 "no such byte" ∈ lw_tbl := List.mem_of_getElem? (i := 930) rfl
set_option maxRecDepth 100000 in
theorem w937 : Cond.methodLink "SharingRoom" 191 ⟨"SharingRoom$Board", "byteAt", "(I)I"⟩ ∈ jWS := jm 937 rfl rfl
set_option maxRecDepth 100000 in
theorem w940 : Cond.code ⟨"SharingRoom$Board", "byteAt", "(I)I"⟩ prog_2_method_4_code 2 (some FieldType.int) ∈ jWS := jm 940 rfl rfl
theorem L0_Board_byteAt : jL0 y_Board_byteAt m_Board_byteAt 1 := ⟨w940, w72, ⟨by decide +kernel, by decide +kernel⟩, by decide +kernel, by decide +kernel⟩
set_option maxRecDepth 100000 in
theorem w938 : Cond.instanceMethod ⟨"SharingRoom$Board", "byteAt", "(I)I"⟩ ∈ jWS := jm 938 rfl rfl
set_option maxRecDepth 100000 in
theorem w939 : Cond.selects "SharingRoom$Board" ⟨"SharingRoom$Board", "byteAt", "(I)I"⟩ ⟨"SharingRoom$Board", "byteAt", "(I)I"⟩ ∈ jWS := jm 939 rfl rfl
set_option maxRecDepth 100000 in
theorem w204 : Cond.fieldLink "SharingRoom$Sha256" 9 "SharingRoom$Sha256" "schedule" "[I" ∈ jWS := jm 204 rfl rfl
theorem fl_Sha_9_8 : jFl "SharingRoom$Sha256" 9 8 0 := ⟨"SharingRoom$Sha256", T_Sha, 3, "SharingRoom$Sha256", rfl, by decide, in_Sha, w204, Or.inl rfl⟩
set_option maxRecDepth 100000 in
theorem w964 : Cond.methodLink "SharingRoom$Sha256" 35 ⟨"SharingRoom$Sha256", "padded", "([BII)I"⟩ ∈ jWS := jm 964 rfl rfl
set_option maxRecDepth 100000 in
theorem w966 : Cond.code ⟨"SharingRoom$Sha256", "padded", "([BII)I"⟩ prog_11_method_5_code 3 (some FieldType.int) ∈ jWS := jm 966 rfl rfl
set_option maxRecDepth 100000 in
theorem w73 : Cond.initialized "SharingRoom$Sha256" ∈ jWS := jm 73 rfl rfl
theorem L0_Sha_padded : jL0 y_Sha_padded m_Sha_padded 3 := ⟨w966, w73, ⟨by decide +kernel, by decide +kernel⟩, by decide +kernel, by decide +kernel⟩
set_option maxRecDepth 100000 in
theorem w965 : Cond.static ⟨"SharingRoom$Sha256", "padded", "([BII)I"⟩ ∈ jWS := jm 965 rfl rfl
set_option maxRecDepth 100000 in
theorem w967 : Cond.methodLink "SharingRoom$Sha256" 39 ⟨"SharingRoom$Sha256", "turn", "(II)I"⟩ ∈ jWS := jm 967 rfl rfl
set_option maxRecDepth 100000 in
theorem w969 : Cond.code ⟨"SharingRoom$Sha256", "turn", "(II)I"⟩ prog_11_method_6_code 2 (some FieldType.int) ∈ jWS := jm 969 rfl rfl
theorem L0_Sha_turn : jL0 y_Sha_turn m_Sha_turn 2 := ⟨w969, w73, ⟨by decide +kernel, by decide +kernel⟩, by decide +kernel, by decide +kernel⟩
set_option maxRecDepth 100000 in
theorem w968 : Cond.static ⟨"SharingRoom$Sha256", "turn", "(II)I"⟩ ∈ jWS := jm 968 rfl rfl
set_option maxRecDepth 100000 in
theorem w205 : Cond.fieldLink "SharingRoom$Sha256" 13 "SharingRoom$Sha256" "hash" "[I" ∈ jWS := jm 205 rfl rfl
theorem fl_Sha_13_8 : jFl "SharingRoom$Sha256" 13 8 1 := ⟨"SharingRoom$Sha256", T_Sha, 3, "SharingRoom$Sha256", rfl, by decide, in_Sha, w205, Or.inl rfl⟩
set_option maxRecDepth 100000 in
theorem w206 : Cond.fieldLink "SharingRoom$Sha256" 16 "SharingRoom$Sha256" "work" "[I" ∈ jWS := jm 206 rfl rfl
theorem fl_Sha_16_8 : jFl "SharingRoom$Sha256" 16 8 2 := ⟨"SharingRoom$Sha256", T_Sha, 3, "SharingRoom$Sha256", rfl, by decide, in_Sha, w206, Or.inl rfl⟩
set_option maxRecDepth 100000 in
theorem w959 : Cond.methodLink "SharingRoom$Sha256" 22 ⟨"java/lang/System", "arraycopy", "(Ljava/lang/Object;ILjava/lang/Object;II)V"⟩ ∈ jWS := jm 959 rfl rfl
set_option maxRecDepth 100000 in
theorem w974 : Cond.fieldLink "SharingRoom$Sha256" 43 "SharingRoom$Sha256" "ROUND_CONSTANTS" "[I" ∈ jWS := jm 974 rfl rfl
set_option maxRecDepth 100000 in
theorem w957 : Cond.fieldLink "SharingRoom$Sha256" 19 "SharingRoom$Sha256" "START" "[I" ∈ jWS := jm 957 rfl rfl
set_option maxRecDepth 100000 in
theorem w960 : Cond.methodLink "SharingRoom$Sha256" 28 ⟨"SharingRoom$Sha256", "fillSchedule", "([BIII)V"⟩ ∈ jWS := jm 960 rfl rfl
set_option maxRecDepth 100000 in
theorem w963 : Cond.code ⟨"SharingRoom$Sha256", "fillSchedule", "([BIII)V"⟩ prog_11_method_3_code 10 none ∈ jWS := jm 963 rfl rfl
theorem L0_Sha_fillSchedule : jL0 y_Sha_fillSchedule m_Sha_fillSchedule 4 := ⟨w963, w73, ⟨by decide +kernel, by decide +kernel⟩, by decide +kernel, by decide +kernel⟩
set_option maxRecDepth 100000 in
theorem w962 : Cond.instanceMethod ⟨"SharingRoom$Sha256", "fillSchedule", "([BIII)V"⟩ ∈ jWS := jm 962 rfl rfl
set_option maxRecDepth 100000 in
theorem w26 : Cond.selects "SharingRoom$Sha256" ⟨"SharingRoom$Sha256", "fillSchedule", "([BIII)V"⟩ ⟨"SharingRoom$Sha256", "fillSchedule", "([BIII)V"⟩ ∈ jWS := jm 26 rfl rfl
set_option maxRecDepth 100000 in
theorem w970 : Cond.methodLink "SharingRoom$Sha256" 32 ⟨"SharingRoom$Sha256", "mix", "()V"⟩ ∈ jWS := jm 970 rfl rfl
set_option maxRecDepth 100000 in
theorem w973 : Cond.code ⟨"SharingRoom$Sha256", "mix", "()V"⟩ prog_11_method_4_code 10 none ∈ jWS := jm 973 rfl rfl
theorem L0_Sha_mix : jL0 y_Sha_mix m_Sha_mix 0 := ⟨w973, w73, ⟨by decide +kernel, by decide +kernel⟩, by decide +kernel, by decide +kernel⟩
set_option maxRecDepth 100000 in
theorem w972 : Cond.instanceMethod ⟨"SharingRoom$Sha256", "mix", "()V"⟩ ∈ jWS := jm 972 rfl rfl
set_option maxRecDepth 100000 in
theorem w27 : Cond.selects "SharingRoom$Sha256" ⟨"SharingRoom$Sha256", "mix", "()V"⟩ ⟨"SharingRoom$Sha256", "mix", "()V"⟩ ∈ jWS := jm 27 rfl rfl
set_option maxRecDepth 100000 in
theorem w216 : Cond.fieldLink "SharingRoom$Board" 16 "SharingRoom$Board" "sha" "LSharingRoom$Sha256;" ∈ jWS := jm 216 rfl rfl
theorem fl_Board_16_1 : jFl "SharingRoom$Board" 16 1 1 := ⟨"SharingRoom$Board", T_Board, 3, "SharingRoom$Board", rfl, by decide, in_Board, w216, Or.inl rfl⟩
set_option maxRecDepth 100000 in
theorem w953 : Cond.methodLink "SharingRoom$Board" 28 ⟨"SharingRoom$Sha256", "wordOf", "([BII)I"⟩ ∈ jWS := jm 953 rfl rfl
set_option maxRecDepth 100000 in
theorem w956 : Cond.code ⟨"SharingRoom$Sha256", "wordOf", "([BII)I"⟩ prog_11_method_2_code 6 (some FieldType.int) ∈ jWS := jm 956 rfl rfl
theorem L0_Sha_wordOf : jL0 y_Sha_wordOf m_Sha_wordOf 3 := ⟨w956, w73, ⟨by decide +kernel, by decide +kernel⟩, by decide +kernel, by decide +kernel⟩
set_option maxRecDepth 100000 in
theorem w954 : Cond.instanceMethod ⟨"SharingRoom$Sha256", "wordOf", "([BII)I"⟩ ∈ jWS := jm 954 rfl rfl
set_option maxRecDepth 100000 in
theorem w955 : Cond.selects "SharingRoom$Sha256" ⟨"SharingRoom$Sha256", "wordOf", "([BII)I"⟩ ⟨"SharingRoom$Sha256", "wordOf", "([BII)I"⟩ ∈ jWS := jm 955 rfl rfl
set_option maxRecDepth 100000 in
theorem wt948 : Cond.stringRef "SharingRoom" 196 "no such word" ∈ lw_tbl := List.mem_of_getElem? (i := 948) rfl
set_option maxRecDepth 100000 in
theorem w949 : Cond.methodLink "SharingRoom" 198 ⟨"SharingRoom$Board", "digestWord", "(I)I"⟩ ∈ jWS := jm 949 rfl rfl
set_option maxRecDepth 100000 in
theorem w952 : Cond.code ⟨"SharingRoom$Board", "digestWord", "(I)I"⟩ prog_2_method_8_code 2 (some FieldType.int) ∈ jWS := jm 952 rfl rfl
theorem L0_Board_digestWord : jL0 y_Board_digestWord m_Board_digestWord 1 := ⟨w952, w72, ⟨by decide +kernel, by decide +kernel⟩, by decide +kernel, by decide +kernel⟩
set_option maxRecDepth 100000 in
theorem w950 : Cond.instanceMethod ⟨"SharingRoom$Board", "digestWord", "(I)I"⟩ ∈ jWS := jm 950 rfl rfl
set_option maxRecDepth 100000 in
theorem w951 : Cond.selects "SharingRoom$Board" ⟨"SharingRoom$Board", "digestWord", "(I)I"⟩ ⟨"SharingRoom$Board", "digestWord", "(I)I"⟩ ∈ jWS := jm 951 rfl rfl
set_option maxRecDepth 100000 in
theorem wt987 : Cond.stringRef "SharingRoom" 226 "not done" ∈ lw_tbl := List.mem_of_getElem? (i := 987) rfl
set_option maxRecDepth 100000 in
theorem w992 : Cond.methodLink "SharingRoom" 240 ⟨"SharingRoom$Room", "isEnough", "(I)Z"⟩ ∈ jWS := jm 992 rfl rfl
set_option maxRecDepth 100000 in
theorem w995 : Cond.code ⟨"SharingRoom$Room", "isEnough", "(I)Z"⟩ prog_10_method_6_code 2 (some FieldType.boolean) ∈ jWS := jm 995 rfl rfl
theorem L0_Room_isEnough : jL0 y_Room_isEnough m_Room_isEnough 1 := ⟨w995, w68, ⟨by decide +kernel, by decide +kernel⟩, by decide +kernel, by decide +kernel⟩
set_option maxRecDepth 100000 in
theorem w993 : Cond.instanceMethod ⟨"SharingRoom$Room", "isEnough", "(I)Z"⟩ ∈ jWS := jm 993 rfl rfl
set_option maxRecDepth 100000 in
theorem w994 : Cond.selects "SharingRoom$Room" ⟨"SharingRoom$Room", "isEnough", "(I)Z"⟩ ⟨"SharingRoom$Room", "isEnough", "(I)Z"⟩ ∈ jWS := jm 994 rfl rfl
set_option maxRecDepth 100000 in
theorem wt996 : Cond.stringRef "SharingRoom" 243 "not parties enough, or no such party" ∈ lw_tbl := List.mem_of_getElem? (i := 996) rfl
set_option maxRecDepth 100000 in
theorem w1001 : Cond.methodLink "SharingRoom$Room" 266 ⟨"SharingRoom$Room", "collectShares", "(I)V"⟩ ∈ jWS := jm 1001 rfl rfl
set_option maxRecDepth 100000 in
theorem w1004 : Cond.code ⟨"SharingRoom$Room", "collectShares", "(I)V"⟩ prog_10_method_47_code 3 none ∈ jWS := jm 1004 rfl rfl
theorem L0_Room_collectShares : jL0 y_Room_collectShares m_Room_collectShares 1 := ⟨w1004, w68, ⟨by decide +kernel, by decide +kernel⟩, by decide +kernel, by decide +kernel⟩
set_option maxRecDepth 100000 in
theorem w1003 : Cond.instanceMethod ⟨"SharingRoom$Room", "collectShares", "(I)V"⟩ ∈ jWS := jm 1003 rfl rfl
set_option maxRecDepth 100000 in
theorem w30 : Cond.selects "SharingRoom$Room" ⟨"SharingRoom$Room", "collectShares", "(I)V"⟩ ⟨"SharingRoom$Room", "collectShares", "(I)V"⟩ ∈ jWS := jm 30 rfl rfl
set_option maxRecDepth 100000 in
theorem w983 : Cond.methodLink "SharingRoom" 204 ⟨"SharingRoom", "needDone", "()V"⟩ ∈ jWS := jm 983 rfl rfl
set_option maxRecDepth 100000 in
theorem w986 : Cond.code ⟨"SharingRoom", "needDone", "()V"⟩ prog_1_method_25_code 1 none ∈ jWS := jm 986 rfl rfl
theorem L0_SR_needDone : jL0 y_SR_needDone m_SR_needDone 0 := ⟨w986, w63, ⟨by decide +kernel, by decide +kernel⟩, by decide +kernel, by decide +kernel⟩
set_option maxRecDepth 100000 in
theorem w985 : Cond.instanceMethod ⟨"SharingRoom", "needDone", "()V"⟩ ∈ jWS := jm 985 rfl rfl
set_option maxRecDepth 100000 in
theorem w28 : Cond.selects "SharingRoom" ⟨"SharingRoom", "needDone", "()V"⟩ ⟨"SharingRoom", "needDone", "()V"⟩ ∈ jWS := jm 28 rfl rfl
set_option maxRecDepth 100000 in
theorem w988 : Cond.methodLink "SharingRoom" 207 ⟨"SharingRoom", "needEnough", "(I)V"⟩ ∈ jWS := jm 988 rfl rfl
set_option maxRecDepth 100000 in
theorem w991 : Cond.code ⟨"SharingRoom", "needEnough", "(I)V"⟩ prog_1_method_29_code 2 none ∈ jWS := jm 991 rfl rfl
theorem L0_SR_needEnough : jL0 y_SR_needEnough m_SR_needEnough 1 := ⟨w991, w63, ⟨by decide +kernel, by decide +kernel⟩, by decide +kernel, by decide +kernel⟩
set_option maxRecDepth 100000 in
theorem w990 : Cond.instanceMethod ⟨"SharingRoom", "needEnough", "(I)V"⟩ ∈ jWS := jm 990 rfl rfl
set_option maxRecDepth 100000 in
theorem w29 : Cond.selects "SharingRoom" ⟨"SharingRoom", "needEnough", "(I)V"⟩ ⟨"SharingRoom", "needEnough", "(I)V"⟩ ∈ jWS := jm 29 rfl rfl
set_option maxRecDepth 100000 in
theorem w997 : Cond.methodLink "SharingRoom" 210 ⟨"SharingRoom$Room", "secretOf", "(I)I"⟩ ∈ jWS := jm 997 rfl rfl
set_option maxRecDepth 100000 in
theorem w1000 : Cond.code ⟨"SharingRoom$Room", "secretOf", "(I)I"⟩ prog_10_method_41_code 2 (some FieldType.int) ∈ jWS := jm 1000 rfl rfl
theorem L0_Room_secretOf : jL0 y_Room_secretOf m_Room_secretOf 1 := ⟨w1000, w68, ⟨by decide +kernel, by decide +kernel⟩, by decide +kernel, by decide +kernel⟩
set_option maxRecDepth 100000 in
theorem w998 : Cond.instanceMethod ⟨"SharingRoom$Room", "secretOf", "(I)I"⟩ ∈ jWS := jm 998 rfl rfl
set_option maxRecDepth 100000 in
theorem w999 : Cond.selects "SharingRoom$Room" ⟨"SharingRoom$Room", "secretOf", "(I)I"⟩ ⟨"SharingRoom$Room", "secretOf", "(I)I"⟩ ∈ jWS := jm 999 rfl rfl
set_option maxRecDepth 100000 in
theorem w1024 : Cond.methodLink "SharingRoom$Room" 296 ⟨"SharingRoom$Party", "forget", "()V"⟩ ∈ jWS := jm 1024 rfl rfl
set_option maxRecDepth 100000 in
theorem w281 : Cond.fieldLink "SharingRoom$Room" 24 "SharingRoom$Room" "newShares" "[I" ∈ jWS := jm 281 rfl rfl
theorem fl_Room_24_7 : jFl "SharingRoom$Room" 24 7 4 := ⟨"SharingRoom$Room", T_Room, 15, "SharingRoom$Room", rfl, by decide, in_Room, w281, Or.inl rfl⟩
set_option maxRecDepth 100000 in
theorem w1016 : Cond.methodLink "SharingRoom$Room" 269 ⟨"SharingRoom$Room", "dealtFrom", "(IIII)I"⟩ ∈ jWS := jm 1016 rfl rfl
set_option maxRecDepth 100000 in
theorem w1019 : Cond.code ⟨"SharingRoom$Room", "dealtFrom", "(IIII)I"⟩ prog_10_method_45_code 5 (some FieldType.int) ∈ jWS := jm 1019 rfl rfl
theorem L0_Room_dealtFrom : jL0 y_Room_dealtFrom m_Room_dealtFrom 4 := ⟨w1019, w68, ⟨by decide +kernel, by decide +kernel⟩, by decide +kernel, by decide +kernel⟩
set_option maxRecDepth 100000 in
theorem w1018 : Cond.instanceMethod ⟨"SharingRoom$Room", "dealtFrom", "(IIII)I"⟩ ∈ jWS := jm 1018 rfl rfl
set_option maxRecDepth 100000 in
theorem w31 : Cond.selects "SharingRoom$Room" ⟨"SharingRoom$Room", "dealtFrom", "(IIII)I"⟩ ⟨"SharingRoom$Room", "dealtFrom", "(IIII)I"⟩ ∈ jWS := jm 31 rfl rfl
set_option maxRecDepth 100000 in
theorem w1020 : Cond.methodLink "SharingRoom$Room" 273 ⟨"SharingRoom$Room", "takeNewShares", "()V"⟩ ∈ jWS := jm 1020 rfl rfl
set_option maxRecDepth 100000 in
theorem w1023 : Cond.code ⟨"SharingRoom$Room", "takeNewShares", "()V"⟩ prog_10_method_46_code 2 none ∈ jWS := jm 1023 rfl rfl
theorem L0_Room_takeNewShares : jL0 y_Room_takeNewShares m_Room_takeNewShares 0 := ⟨w1023, w68, ⟨by decide +kernel, by decide +kernel⟩, by decide +kernel, by decide +kernel⟩
set_option maxRecDepth 100000 in
theorem w1022 : Cond.instanceMethod ⟨"SharingRoom$Room", "takeNewShares", "()V"⟩ ∈ jWS := jm 1022 rfl rfl
set_option maxRecDepth 100000 in
theorem w32 : Cond.selects "SharingRoom$Room" ⟨"SharingRoom$Room", "takeNewShares", "()V"⟩ ⟨"SharingRoom$Room", "takeNewShares", "()V"⟩ ∈ jWS := jm 32 rfl rfl
set_option maxRecDepth 100000 in
theorem w1012 : Cond.methodLink "SharingRoom" 213 ⟨"SharingRoom$Room", "renewShares", "()V"⟩ ∈ jWS := jm 1012 rfl rfl
set_option maxRecDepth 100000 in
theorem w1015 : Cond.code ⟨"SharingRoom$Room", "renewShares", "()V"⟩ prog_10_method_42_code 4 none ∈ jWS := jm 1015 rfl rfl
theorem L0_Room_renewShares : jL0 y_Room_renewShares m_Room_renewShares 0 := ⟨w1015, w68, ⟨by decide +kernel, by decide +kernel⟩, by decide +kernel, by decide +kernel⟩
set_option maxRecDepth 100000 in
theorem w1013 : Cond.instanceMethod ⟨"SharingRoom$Room", "renewShares", "()V"⟩ ∈ jWS := jm 1013 rfl rfl
set_option maxRecDepth 100000 in
theorem w1014 : Cond.selects "SharingRoom$Room" ⟨"SharingRoom$Room", "renewShares", "()V"⟩ ⟨"SharingRoom$Room", "renewShares", "()V"⟩ ∈ jWS := jm 1014 rfl rfl
set_option maxRecDepth 100000 in
theorem w1043 : Cond.methodLink "SharingRoom$Room" 289 ⟨"SharingRoom$Field", "times", "(II)I"⟩ ∈ jWS := jm 1043 rfl rfl
set_option maxRecDepth 100000 in
theorem w1037 : Cond.methodLink "SharingRoom$Room" 276 ⟨"java/util/Arrays", "fill", "([II)V"⟩ ∈ jWS := jm 1037 rfl rfl
set_option maxRecDepth 100000 in
theorem w1038 : Cond.methodLink "SharingRoom$Room" 282 ⟨"SharingRoom$Points", "weight", "(II)I"⟩ ∈ jWS := jm 1038 rfl rfl
set_option maxRecDepth 100000 in
theorem w1039 : Cond.methodLink "SharingRoom$Room" 285 ⟨"SharingRoom$Room", "addDealt", "(IIII)V"⟩ ∈ jWS := jm 1039 rfl rfl
set_option maxRecDepth 100000 in
theorem w1042 : Cond.code ⟨"SharingRoom$Room", "addDealt", "(IIII)V"⟩ prog_10_method_44_code 7 none ∈ jWS := jm 1042 rfl rfl
theorem L0_Room_addDealt : jL0 y_Room_addDealt m_Room_addDealt 4 := ⟨w1042, w68, ⟨by decide +kernel, by decide +kernel⟩, by decide +kernel, by decide +kernel⟩
set_option maxRecDepth 100000 in
theorem w1041 : Cond.instanceMethod ⟨"SharingRoom$Room", "addDealt", "(IIII)V"⟩ ∈ jWS := jm 1041 rfl rfl
set_option maxRecDepth 100000 in
theorem w33 : Cond.selects "SharingRoom$Room" ⟨"SharingRoom$Room", "addDealt", "(IIII)V"⟩ ⟨"SharingRoom$Room", "addDealt", "(IIII)V"⟩ ∈ jWS := jm 33 rfl rfl
set_option maxRecDepth 100000 in
theorem w1033 : Cond.methodLink "SharingRoom" 218 ⟨"SharingRoom$Room", "handTo", "(III)V"⟩ ∈ jWS := jm 1033 rfl rfl
set_option maxRecDepth 100000 in
theorem w1036 : Cond.code ⟨"SharingRoom$Room", "handTo", "(III)V"⟩ prog_10_method_43_code 7 none ∈ jWS := jm 1036 rfl rfl
theorem L0_Room_handTo : jL0 y_Room_handTo m_Room_handTo 3 := ⟨w1036, w68, ⟨by decide +kernel, by decide +kernel⟩, by decide +kernel, by decide +kernel⟩
set_option maxRecDepth 100000 in
theorem w1034 : Cond.instanceMethod ⟨"SharingRoom$Room", "handTo", "(III)V"⟩ ∈ jWS := jm 1034 rfl rfl
set_option maxRecDepth 100000 in
theorem w1035 : Cond.selects "SharingRoom$Room" ⟨"SharingRoom$Room", "handTo", "(III)V"⟩ ⟨"SharingRoom$Room", "handTo", "(III)V"⟩ ∈ jWS := jm 1035 rfl rfl
set_option maxRecDepth 100000 in
theorem wt1032 : Cond.stringRef "SharingRoom" 216 "no such committee" ∈ lw_tbl := List.mem_of_getElem? (i := 1032) rfl
