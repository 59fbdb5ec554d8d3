set_option maxRecDepth 100000 in
theorem w102 : Cond.methodLink "SharingRoom$Field" 1 ⟨"java/lang/Object", "<init>", "()V"⟩ ∈ jWS := jm 102 rfl rfl
set_option maxRecDepth 100000 in
theorem w92 : Cond.instanceMethod ⟨"java/lang/Object", "<init>", "()V"⟩ ∈ jWS := jm 92 rfl rfl
set_option maxRecDepth 100000 in
theorem w93 : Cond.code ⟨"java/lang/Object", "<init>", "()V"⟩ object_method_1_code 1 none ∈ jWS := jm 93 rfl rfl
theorem fp_Field_7_6 : jFp "SharingRoom$Field" "<init>" 7 6 0 (.int) := ⟨fl_Field_7_6, "SharingRoom$PrimeField", T_Prime, 1, ty_Prime, rfl, tk_Prime, nm_Prime, rfl, Or.inr ⟨rfl, rfl, rfl⟩⟩
set_option maxRecDepth 100000 in
theorem w99 : Cond.methodLink "SharingRoom$PrimeField" 1 ⟨"SharingRoom$Field", "<init>", "(I)V"⟩ ∈ jWS := jm 99 rfl rfl
set_option maxRecDepth 100000 in
theorem w100 : Cond.instanceMethod ⟨"SharingRoom$Field", "<init>", "(I)V"⟩ ∈ jWS := jm 100 rfl rfl
set_option maxRecDepth 100000 in
theorem w101 : Cond.code ⟨"SharingRoom$Field", "<init>", "(I)V"⟩ prog_5_method_1_code 2 none ∈ jWS := jm 101 rfl rfl
theorem L0_Field_init : jL0 y_Field_init m_Field_init 1 := ⟨w101, w64, ⟨by decide +kernel, by decide +kernel⟩, by decide +kernel, by decide +kernel⟩
theorem fp_Field_7_2 : jFp "SharingRoom$Field" "<init>" 7 2 0 (.int) := ⟨fl_Field_7_2, "SharingRoom$ByteField", T_Byte, 1, ty_Byte, rfl, tk_Byte, nm_Byte, rfl, Or.inr ⟨rfl, rfl, rfl⟩⟩
set_option maxRecDepth 100000 in
theorem w117 : Cond.methodLink "SharingRoom$ByteField" 1 ⟨"SharingRoom$Field", "<init>", "(I)V"⟩ ∈ jWS := jm 117 rfl rfl
set_option maxRecDepth 100000 in
theorem w125 : Cond.methodLink "SharingRoom$Points" 1 ⟨"java/lang/Object", "<init>", "()V"⟩ ∈ jWS := jm 125 rfl rfl
set_option maxRecDepth 100000 in
theorem w142 : Cond.arrayClass FieldType.int ∈ jWS := jm 142 rfl rfl
theorem fp_Points_9_5 : jFp "SharingRoom$Points" "<init>" 9 5 0 (.array .int) := ⟨fl_Points_9_5, "SharingRoom$Points", T_Points, 5, ty_Points, rfl, tk_Points, nm_Points, rfl, Or.inr ⟨rfl, rfl, rfl⟩⟩
theorem fp_Points_13_5 : jFp "SharingRoom$Points" "<init>" 13 5 1 (.array .int) := ⟨fl_Points_13_5, "SharingRoom$Points", T_Points, 5, ty_Points, rfl, tk_Points, nm_Points, rfl, Or.inr ⟨rfl, rfl, rfl⟩⟩
theorem fp_Points_16_5 : jFp "SharingRoom$Points" "<init>" 16 5 2 (.array .int) := ⟨fl_Points_16_5, "SharingRoom$Points", T_Points, 5, ty_Points, rfl, tk_Points, nm_Points, rfl, Or.inr ⟨rfl, rfl, rfl⟩⟩
set_option maxRecDepth 100000 in
theorem w153 : Cond.methodLink "SharingRoom$Group" 1 ⟨"java/lang/Object", "<init>", "()V"⟩ ∈ jWS := jm 153 rfl rfl
set_option maxRecDepth 100000 in
theorem w154 : Cond.fieldLink "SharingRoom$Group" 7 "SharingRoom$Group" "exponents" "LSharingRoom$Field;" ∈ jWS := jm 154 rfl rfl
theorem fl_Group_7_9 : jFl "SharingRoom$Group" 7 9 0 := ⟨"SharingRoom$SquareGroup", T_Square, 4, "SharingRoom$Group", rfl, by decide, in_Square, w154, Or.inl rfl⟩
theorem fp_Group_7_9 : jFp "SharingRoom$Group" "<init>" 7 9 0 (.object "SharingRoom$Field") := ⟨fl_Group_7_9, "SharingRoom$SquareGroup", T_Square, 4, ty_Square, rfl, tk_Square, nm_Square, rfl, Or.inr ⟨rfl, rfl, rfl⟩⟩
theorem fp_Group_13_9 : jFp "SharingRoom$Group" "<init>" 13 9 1 (.int) := ⟨fl_Group_13_9, "SharingRoom$SquareGroup", T_Square, 4, ty_Square, rfl, tk_Square, nm_Square, rfl, Or.inr ⟨rfl, rfl, rfl⟩⟩
theorem fp_Group_17_9 : jFp "SharingRoom$Group" "<init>" 17 9 2 (.int) := ⟨fl_Group_17_9, "SharingRoom$SquareGroup", T_Square, 4, ty_Square, rfl, tk_Square, nm_Square, rfl, Or.inr ⟨rfl, rfl, rfl⟩⟩
theorem fp_Group_20_9 : jFp "SharingRoom$Group" "<init>" 20 9 3 (.int) := ⟨fl_Group_20_9, "SharingRoom$SquareGroup", T_Square, 4, ty_Square, rfl, tk_Square, nm_Square, rfl, Or.inr ⟨rfl, rfl, rfl⟩⟩
set_option maxRecDepth 100000 in
theorem w150 : Cond.methodLink "SharingRoom$SquareGroup" 1 ⟨"SharingRoom$Group", "<init>", "(LSharingRoom$Field;III)V"⟩ ∈ jWS := jm 150 rfl rfl
set_option maxRecDepth 100000 in
theorem w151 : Cond.instanceMethod ⟨"SharingRoom$Group", "<init>", "(LSharingRoom$Field;III)V"⟩ ∈ jWS := jm 151 rfl rfl
set_option maxRecDepth 100000 in
theorem w152 : Cond.code ⟨"SharingRoom$Group", "<init>", "(LSharingRoom$Field;III)V"⟩ prog_6_method_1_code 5 none ∈ jWS := jm 152 rfl rfl
theorem L0_Group_init : jL0 y_Group_init m_Group_init 4 := ⟨w152, w69, ⟨by decide +kernel, by decide +kernel⟩, by decide +kernel, by decide +kernel⟩
theorem fl_Group_7_3 : jFl "SharingRoom$Group" 7 3 0 := ⟨"SharingRoom$CurveGroup", T_Curve, 5, "SharingRoom$Group", rfl, by decide, in_Curve, w154, Or.inl rfl⟩
theorem fp_Group_7_3 : jFp "SharingRoom$Group" "<init>" 7 3 0 (.object "SharingRoom$Field") := ⟨fl_Group_7_3, "SharingRoom$CurveGroup", T_Curve, 5, ty_Curve, rfl, tk_Curve, nm_Curve, rfl, Or.inr ⟨rfl, rfl, rfl⟩⟩
theorem fp_Group_13_3 : jFp "SharingRoom$Group" "<init>" 13 3 1 (.int) := ⟨fl_Group_13_3, "SharingRoom$CurveGroup", T_Curve, 5, ty_Curve, rfl, tk_Curve, nm_Curve, rfl, Or.inr ⟨rfl, rfl, rfl⟩⟩
theorem fp_Group_17_3 : jFp "SharingRoom$Group" "<init>" 17 3 2 (.int) := ⟨fl_Group_17_3, "SharingRoom$CurveGroup", T_Curve, 5, ty_Curve, rfl, tk_Curve, nm_Curve, rfl, Or.inr ⟨rfl, rfl, rfl⟩⟩
theorem fp_Group_20_3 : jFp "SharingRoom$Group" "<init>" 20 3 3 (.int) := ⟨fl_Group_20_3, "SharingRoom$CurveGroup", T_Curve, 5, ty_Curve, rfl, tk_Curve, nm_Curve, rfl, Or.inr ⟨rfl, rfl, rfl⟩⟩
set_option maxRecDepth 100000 in
theorem w197 : Cond.methodLink "SharingRoom$Board" 1 ⟨"java/lang/Object", "<init>", "()V"⟩ ∈ jWS := jm 197 rfl rfl
set_option maxRecDepth 100000 in
theorem w214 : Cond.arrayClass FieldType.byte ∈ jWS := jm 214 rfl rfl
theorem fp_Board_9_1 : jFp "SharingRoom$Board" "<init>" 9 1 0 (.array .byte) := ⟨fl_Board_9_1, "SharingRoom$Board", T_Board, 3, ty_Board, rfl, tk_Board, nm_Board, rfl, Or.inr ⟨rfl, rfl, rfl⟩⟩
set_option maxRecDepth 100000 in
theorem w198 : Cond.classLink "SharingRoom$Board" 13 "SharingRoom$Sha256" ∈ jWS := jm 198 rfl rfl
set_option maxRecDepth 100000 in
theorem w199 : Cond.instantiable "SharingRoom$Sha256" 3 ∈ jWS := jm 199 rfl rfl
theorem df_Sha : ∀ j, j < 3 → defaultValue (ty_Sha j) = vp_V [.null, .null, .null] j := by
  intro j hj
  match j, hj with | 0, _ => rfl | 1, _ => rfl | 2, _ => rfl
set_option maxRecDepth 100000 in
theorem w203 : Cond.methodLink "SharingRoom$Sha256" 1 ⟨"java/lang/Object", "<init>", "()V"⟩ ∈ jWS := jm 203 rfl rfl
theorem fp_Sha_9_8 : jFp "SharingRoom$Sha256" "<init>" 9 8 0 (.array .int) := ⟨fl_Sha_9_8, "SharingRoom$Sha256", T_Sha, 3, ty_Sha, rfl, tk_Sha, nm_Sha, rfl, Or.inr ⟨rfl, rfl, rfl⟩⟩
theorem fp_Sha_13_8 : jFp "SharingRoom$Sha256" "<init>" 13 8 1 (.array .int) := ⟨fl_Sha_13_8, "SharingRoom$Sha256", T_Sha, 3, ty_Sha, rfl, tk_Sha, nm_Sha, rfl, Or.inr ⟨rfl, rfl, rfl⟩⟩
theorem fp_Sha_16_8 : jFp "SharingRoom$Sha256" "<init>" 16 8 2 (.array .int) := ⟨fl_Sha_16_8, "SharingRoom$Sha256", T_Sha, 3, ty_Sha, rfl, tk_Sha, nm_Sha, rfl, Or.inr ⟨rfl, rfl, rfl⟩⟩
set_option maxRecDepth 100000 in
theorem wt200 : Cond.methodLinkNest "SharingRoom$Board" 15 ⟨"SharingRoom$Sha256", "<init>", "()V"⟩ "SharingRoom" ∈ lw_tbl := List.mem_of_getElem? (i := 200) rfl
set_option maxRecDepth 100000 in
theorem w201 : Cond.instanceMethod ⟨"SharingRoom$Sha256", "<init>", "()V"⟩ ∈ jWS := jm 201 rfl rfl
set_option maxRecDepth 100000 in
theorem w202 : Cond.code ⟨"SharingRoom$Sha256", "<init>", "()V"⟩ prog_11_method_1_code 1 none ∈ jWS := jm 202 rfl rfl
theorem L0_Sha_init : jL0 y_Sha_init m_Sha_init 0 := ⟨w202, w73, ⟨by decide +kernel, by decide +kernel⟩, by decide +kernel, by decide +kernel⟩
theorem fp_Board_16_1 : jFp "SharingRoom$Board" "<init>" 16 1 1 (.object "SharingRoom$Sha256") := ⟨fl_Board_16_1, "SharingRoom$Board", T_Board, 3, ty_Board, rfl, tk_Board, nm_Board, rfl, Or.inr ⟨rfl, rfl, rfl⟩⟩
set_option maxRecDepth 100000 in
theorem w233 : Cond.methodLink "SharingRoom$Party" 3 ⟨"java/lang/Object", "<init>", "()V"⟩ ∈ jWS := jm 233 rfl rfl
set_option maxRecDepth 100000 in
theorem w234 : Cond.classLink "SharingRoom$Party" 9 "[[I" ∈ jWS := jm 234 rfl rfl
set_option maxRecDepth 100000 in
theorem wt235 : Cond.arrayOver (FieldType.array FieldType.int) ∈ lw_tbl := List.mem_of_getElem? (i := 235) rfl
theorem fp_Party_11_4 : jFp "SharingRoom$Party" "<init>" 11 4 0 (.array (.array .int)) := ⟨fl_Party_11_4, "SharingRoom$Party", T_Party, 10, ty_Party, rfl, tk_Party, nm_Party, rfl, Or.inr ⟨rfl, rfl, rfl⟩⟩
theorem fp_Party_16_4 : jFp "SharingRoom$Party" "<init>" 16 4 1 (.array .int) := ⟨fl_Party_16_4, "SharingRoom$Party", T_Party, 10, ty_Party, rfl, tk_Party, nm_Party, rfl, Or.inr ⟨rfl, rfl, rfl⟩⟩
theorem fp_Party_20_4 : jFp "SharingRoom$Party" "<init>" 20 4 2 (.array (.array .int)) := ⟨fl_Party_20_4, "SharingRoom$Party", T_Party, 10, ty_Party, rfl, tk_Party, nm_Party, rfl, Or.inr ⟨rfl, rfl, rfl⟩⟩
theorem fp_Party_23_4 : jFp "SharingRoom$Party" "<init>" 23 4 3 (.array (.array .int)) := ⟨fl_Party_23_4, "SharingRoom$Party", T_Party, 10, ty_Party, rfl, tk_Party, nm_Party, rfl, Or.inr ⟨rfl, rfl, rfl⟩⟩
theorem fp_Party_26_4 : jFp "SharingRoom$Party" "<init>" 26 4 4 (.array (.array .int)) := ⟨fl_Party_26_4, "SharingRoom$Party", T_Party, 10, ty_Party, rfl, tk_Party, nm_Party, rfl, Or.inr ⟨rfl, rfl, rfl⟩⟩
theorem fp_Party_29_4 : jFp "SharingRoom$Party" "<init>" 29 4 5 (.array .int) := ⟨fl_Party_29_4, "SharingRoom$Party", T_Party, 10, ty_Party, rfl, tk_Party, nm_Party, rfl, Or.inr ⟨rfl, rfl, rfl⟩⟩
set_option maxRecDepth 100000 in
theorem w177 : Cond.methodLink "SharingRoom$CurveGroup" 1 ⟨"SharingRoom$Group", "<init>", "(LSharingRoom$Field;III)V"⟩ ∈ jWS := jm 177 rfl rfl
theorem fp_Curve_9_3 : jFp "SharingRoom$CurveGroup" "<init>" 9 3 4 (.array .int) := ⟨fl_Curve_9_3, "SharingRoom$CurveGroup", T_Curve, 5, ty_Curve, rfl, tk_Curve, nm_Curve, rfl, Or.inr ⟨rfl, rfl, rfl⟩⟩
set_option maxRecDepth 100000 in
theorem w91 : Cond.methodLink "SharingRoom" 1 ⟨"java/lang/Object", "<init>", "()V"⟩ ∈ jWS := jm 91 rfl rfl
set_option maxRecDepth 100000 in
theorem w94 : Cond.classLink "SharingRoom" 7 "SharingRoom$PrimeField" ∈ jWS := jm 94 rfl rfl
set_option maxRecDepth 100000 in
theorem w95 : Cond.instantiable "SharingRoom$PrimeField" 1 ∈ jWS := jm 95 rfl rfl
theorem df_Prime : ∀ j, j < 1 → defaultValue (ty_Prime j) = vp_V [.int 0] j := by
  intro j hj
  match j, hj with | 0, _ => rfl
set_option maxRecDepth 100000 in
theorem w96 : Cond.methodLink "SharingRoom" 9 ⟨"SharingRoom$PrimeField", "<init>", "(I)V"⟩ ∈ jWS := jm 96 rfl rfl
set_option maxRecDepth 100000 in
theorem w97 : Cond.instanceMethod ⟨"SharingRoom$PrimeField", "<init>", "(I)V"⟩ ∈ jWS := jm 97 rfl rfl
set_option maxRecDepth 100000 in
theorem w98 : Cond.code ⟨"SharingRoom$PrimeField", "<init>", "(I)V"⟩ prog_9_method_1_code 2 none ∈ jWS := jm 98 rfl rfl
theorem L0_Prime_init : jL0 y_Prime_init m_Prime_init 1 := ⟨w98, w65, ⟨by decide +kernel, by decide +kernel⟩, by decide +kernel, by decide +kernel⟩
set_option maxRecDepth 100000 in
theorem w110 : Cond.classLink "SharingRoom" 12 "SharingRoom$Field" ∈ jWS := jm 110 rfl rfl
set_option maxRecDepth 100000 in
theorem wt111 : Cond.arrayOver (FieldType.object "SharingRoom$Field") ∈ lw_tbl := List.mem_of_getElem? (i := 111) rfl
set_option maxRecDepth 100000 in
theorem w112 : Cond.classLink "SharingRoom" 14 "SharingRoom$ByteField" ∈ jWS := jm 112 rfl rfl
set_option maxRecDepth 100000 in
theorem w113 : Cond.instantiable "SharingRoom$ByteField" 1 ∈ jWS := jm 113 rfl rfl
theorem df_Byte : ∀ j, j < 1 → defaultValue (ty_Byte j) = vp_V [.int 0] j := by
  intro j hj
  match j, hj with | 0, _ => rfl
set_option maxRecDepth 100000 in
theorem w114 : Cond.methodLink "SharingRoom" 16 ⟨"SharingRoom$ByteField", "<init>", "()V"⟩ ∈ jWS := jm 114 rfl rfl
set_option maxRecDepth 100000 in
theorem w115 : Cond.instanceMethod ⟨"SharingRoom$ByteField", "<init>", "()V"⟩ ∈ jWS := jm 115 rfl rfl
set_option maxRecDepth 100000 in
theorem w116 : Cond.code ⟨"SharingRoom$ByteField", "<init>", "()V"⟩ prog_3_method_1_code 1 none ∈ jWS := jm 116 rfl rfl
theorem L0_Byte_init : jL0 y_Byte_init m_Byte_init 0 := ⟨w116, w66, ⟨by decide +kernel, by decide +kernel⟩, by decide +kernel, by decide +kernel⟩
set_option maxRecDepth 100000 in
theorem wt1503 : Cond.castable "SharingRoom$ByteField" "SharingRoom$Field" ∈ lw_tbl := List.mem_of_getElem? (i := 1503) rfl
set_option maxRecDepth 100000 in
theorem wt1504 : Cond.castable "SharingRoom$PrimeField" "SharingRoom$Field" ∈ lw_tbl := List.mem_of_getElem? (i := 1504) rfl
theorem fp_SR_17_0 : jFp "SharingRoom" "<init>" 17 0 0 (.array (.object "SharingRoom$Field")) := ⟨fl_SR_17_0, "SharingRoom", T_SR, 3, ty_SR, rfl, tk_SR, nm_SR, rfl, Or.inr ⟨rfl, rfl, rfl⟩⟩
set_option maxRecDepth 100000 in
theorem w120 : Cond.classLink "SharingRoom" 23 "SharingRoom$Points" ∈ jWS := jm 120 rfl rfl
set_option maxRecDepth 100000 in
theorem w121 : Cond.instantiable "SharingRoom$Points" 5 ∈ jWS := jm 121 rfl rfl
theorem df_Points : ∀ j, j < 5 → defaultValue (ty_Points j) = vp_V [.null, .null, .null, .null, .int 0] j := by
  intro j hj
  match j, hj with | 0, _ => rfl | 1, _ => rfl | 2, _ => rfl | 3, _ => rfl | 4, _ => rfl
set_option maxRecDepth 100000 in
theorem w122 : Cond.methodLink "SharingRoom" 25 ⟨"SharingRoom$Points", "<init>", "(LSharingRoom$Field;)V"⟩ ∈ jWS := jm 122 rfl rfl
set_option maxRecDepth 100000 in
theorem w123 : Cond.instanceMethod ⟨"SharingRoom$Points", "<init>", "(LSharingRoom$Field;)V"⟩ ∈ jWS := jm 123 rfl rfl
set_option maxRecDepth 100000 in
theorem w124 : Cond.code ⟨"SharingRoom$Points", "<init>", "(LSharingRoom$Field;)V"⟩ prog_8_method_1_code 2 none ∈ jWS := jm 124 rfl rfl
theorem L0_Points_init : jL0 y_Points_init m_Points_init 1 := ⟨w124, w67, ⟨by decide +kernel, by decide +kernel⟩, by decide +kernel, by decide +kernel⟩
theorem fp_SR_28_0 : jFp "SharingRoom" "<init>" 28 0 1 (.object "SharingRoom$Points") := ⟨fl_SR_28_0, "SharingRoom", T_SR, 3, ty_SR, rfl, tk_SR, nm_SR, rfl, Or.inr ⟨rfl, rfl, rfl⟩⟩
set_option maxRecDepth 100000 in
theorem w143 : Cond.classLink "SharingRoom" 32 "SharingRoom$Room" ∈ jWS := jm 143 rfl rfl
set_option maxRecDepth 100000 in
theorem w144 : Cond.instantiable "SharingRoom$Room" 15 ∈ jWS := jm 144 rfl rfl
theorem df_Room : ∀ j, j < 15 → defaultValue (ty_Room j) = vp_V [.null, .null, .null, .null, .null, .null, .null, .int 0, .int 0, .int 0, .int 0, .int 0, .int 0, .int 0, .int 0] j := by
  intro j hj
  match j, hj with | 0, _ => rfl | 1, _ => rfl | 2, _ => rfl | 3, _ => rfl | 4, _ => rfl | 5, _ => rfl | 6, _ => rfl | 7, _ => rfl | 8, _ => rfl | 9, _ => rfl | 10, _ => rfl | 11, _ => rfl | 12, _ => rfl | 13, _ => rfl | 14, _ => rfl
set_option maxRecDepth 100000 in
theorem w145 : Cond.classLink "SharingRoom" 34 "SharingRoom$SquareGroup" ∈ jWS := jm 145 rfl rfl
set_option maxRecDepth 100000 in
theorem w146 : Cond.instantiable "SharingRoom$SquareGroup" 4 ∈ jWS := jm 146 rfl rfl
theorem df_Square : ∀ j, j < 4 → defaultValue (ty_Square j) = vp_V [.null, .int 0, .int 0, .int 0] j := by
  intro j hj
  match j, hj with | 0, _ => rfl | 1, _ => rfl | 2, _ => rfl | 3, _ => rfl
set_option maxRecDepth 100000 in
theorem w147 : Cond.methodLink "SharingRoom" 36 ⟨"SharingRoom$SquareGroup", "<init>", "(LSharingRoom$Field;)V"⟩ ∈ jWS := jm 147 rfl rfl
set_option maxRecDepth 100000 in
theorem w148 : Cond.instanceMethod ⟨"SharingRoom$SquareGroup", "<init>", "(LSharingRoom$Field;)V"⟩ ∈ jWS := jm 148 rfl rfl
set_option maxRecDepth 100000 in
theorem w149 : Cond.code ⟨"SharingRoom$SquareGroup", "<init>", "(LSharingRoom$Field;)V"⟩ prog_12_method_1_code 2 none ∈ jWS := jm 149 rfl rfl
theorem L0_Square_init : jL0 y_Square_init m_Square_init 1 := ⟨w149, w70, ⟨by decide +kernel, by decide +kernel⟩, by decide +kernel, by decide +kernel⟩
set_option maxRecDepth 100000 in
theorem w172 : Cond.classLink "SharingRoom" 37 "SharingRoom$CurveGroup" ∈ jWS := jm 172 rfl rfl
set_option maxRecDepth 100000 in
theorem w173 : Cond.instantiable "SharingRoom$CurveGroup" 5 ∈ jWS := jm 173 rfl rfl
theorem df_Curve : ∀ j, j < 5 → defaultValue (ty_Curve j) = vp_V [.null, .int 0, .int 0, .int 0, .null] j := by
  intro j hj
  match j, hj with | 0, _ => rfl | 1, _ => rfl | 2, _ => rfl | 3, _ => rfl | 4, _ => rfl
set_option maxRecDepth 100000 in
theorem w174 : Cond.methodLink "SharingRoom" 39 ⟨"SharingRoom$CurveGroup", "<init>", "(LSharingRoom$Field;)V"⟩ ∈ jWS := jm 174 rfl rfl
set_option maxRecDepth 100000 in
theorem w175 : Cond.instanceMethod ⟨"SharingRoom$CurveGroup", "<init>", "(LSharingRoom$Field;)V"⟩ ∈ jWS := jm 175 rfl rfl
set_option maxRecDepth 100000 in
theorem w176 : Cond.code ⟨"SharingRoom$CurveGroup", "<init>", "(LSharingRoom$Field;)V"⟩ prog_4_method_1_code 4 none ∈ jWS := jm 176 rfl rfl
theorem L0_Curve_init : jL0 y_Curve_init m_Curve_init 1 := ⟨w176, w71, ⟨by decide +kernel, by decide +kernel⟩, by decide +kernel, by decide +kernel⟩
set_option maxRecDepth 100000 in
theorem w189 : Cond.methodLink "SharingRoom$Room" 3 ⟨"java/lang/Object", "<init>", "()V"⟩ ∈ jWS := jm 189 rfl rfl
set_option maxRecDepth 100000 in
theorem w190 : Cond.classLink "SharingRoom$Room" 9 "SharingRoom$Party" ∈ jWS := jm 190 rfl rfl
set_option maxRecDepth 100000 in
theorem wt191 : Cond.arrayOver (FieldType.object "SharingRoom$Party") ∈ lw_tbl := List.mem_of_getElem? (i := 191) rfl
theorem fp_Room_11_7 : jFp "SharingRoom$Room" "<init>" 11 7 1 (.array (.object "SharingRoom$Party")) := ⟨fl_Room_11_7, "SharingRoom$Room", T_Room, 15, ty_Room, rfl, tk_Room, nm_Room, rfl, Or.inr ⟨rfl, rfl, rfl⟩⟩
set_option maxRecDepth 100000 in
theorem w192 : Cond.classLink "SharingRoom$Room" 17 "SharingRoom$Board" ∈ jWS := jm 192 rfl rfl
set_option maxRecDepth 100000 in
theorem w193 : Cond.instantiable "SharingRoom$Board" 3 ∈ jWS := jm 193 rfl rfl
theorem df_Board : ∀ j, j < 3 → defaultValue (ty_Board j) = vp_V [.null, .null, .int 0] j := by
  intro j hj
  match j, hj with | 0, _ => rfl | 1, _ => rfl | 2, _ => rfl
set_option maxRecDepth 100000 in
theorem wt194 : Cond.methodLinkNest "SharingRoom$Room" 19 ⟨"SharingRoom$Board", "<init>", "()V"⟩ "SharingRoom" ∈ lw_tbl := List.mem_of_getElem? (i := 194) rfl
set_option maxRecDepth 100000 in
theorem w195 : Cond.instanceMethod ⟨"SharingRoom$Board", "<init>", "()V"⟩ ∈ jWS := jm 195 rfl rfl
set_option maxRecDepth 100000 in
theorem w196 : Cond.code ⟨"SharingRoom$Board", "<init>", "()V"⟩ prog_2_method_1_code 1 none ∈ jWS := jm 196 rfl rfl
theorem L0_Board_init : jL0 y_Board_init m_Board_init 0 := ⟨w196, w72, ⟨by decide +kernel, by decide +kernel⟩, by decide +kernel, by decide +kernel⟩
theorem fp_Room_20_7 : jFp "SharingRoom$Room" "<init>" 20 7 2 (.object "SharingRoom$Board") := ⟨fl_Room_20_7, "SharingRoom$Room", T_Room, 15, ty_Room, rfl, tk_Room, nm_Room, rfl, Or.inr ⟨rfl, rfl, rfl⟩⟩
theorem fp_Room_24_7 : jFp "SharingRoom$Room" "<init>" 24 7 4 (.array .int) := ⟨fl_Room_24_7, "SharingRoom$Room", T_Room, 15, ty_Room, rfl, tk_Room, nm_Room, rfl, Or.inr ⟨rfl, rfl, rfl⟩⟩
set_option maxRecDepth 100000 in
theorem w225 : Cond.classLink "SharingRoom$Room" 28 "SharingRoom$Group" ∈ jWS := jm 225 rfl rfl
set_option maxRecDepth 100000 in
theorem wt226 : Cond.arrayOver (FieldType.object "SharingRoom$Group") ∈ lw_tbl := List.mem_of_getElem? (i := 226) rfl
set_option maxRecDepth 100000 in
theorem wt1506 : Cond.castable "SharingRoom$SquareGroup" "SharingRoom$Group" ∈ lw_tbl := List.mem_of_getElem? (i := 1506) rfl
set_option maxRecDepth 100000 in
theorem wt1505 : Cond.castable "SharingRoom$CurveGroup" "SharingRoom$Group" ∈ lw_tbl := List.mem_of_getElem? (i := 1505) rfl
theorem fp_Room_30_7 : jFp "SharingRoom$Room" "<init>" 30 7 0 (.array (.object "SharingRoom$Group")) := ⟨fl_Room_30_7, "SharingRoom$Room", T_Room, 15, ty_Room, rfl, tk_Room, nm_Room, rfl, Or.inr ⟨rfl, rfl, rfl⟩⟩
set_option maxRecDepth 100000 in
theorem w227 : Cond.classLink "SharingRoom$Room" 45 "SharingRoom$Points" ∈ jWS := jm 227 rfl rfl
set_option maxRecDepth 100000 in
theorem w228 : Cond.methodLink "SharingRoom$Room" 47 ⟨"SharingRoom$Points", "<init>", "(LSharingRoom$Field;)V"⟩ ∈ jWS := jm 228 rfl rfl
theorem fp_Room_50_7 : jFp "SharingRoom$Room" "<init>" 50 7 3 (.object "SharingRoom$Points") := ⟨fl_Room_50_7, "SharingRoom$Room", T_Room, 15, ty_Room, rfl, tk_Room, nm_Room, rfl, Or.inr ⟨rfl, rfl, rfl⟩⟩
set_option maxRecDepth 100000 in
theorem w229 : Cond.instantiable "SharingRoom$Party" 10 ∈ jWS := jm 229 rfl rfl
theorem df_Party : ∀ j, j < 10 → defaultValue (ty_Party j) = vp_V [.null, .null, .null, .null, .null, .null, .int 0, .int 0, .int 0, .int 0] j := by
  intro j hj
  match j, hj with | 0, _ => rfl | 1, _ => rfl | 2, _ => rfl | 3, _ => rfl | 4, _ => rfl | 5, _ => rfl | 6, _ => rfl | 7, _ => rfl | 8, _ => rfl | 9, _ => rfl
set_option maxRecDepth 100000 in
theorem wt230 : Cond.methodLinkNest "SharingRoom$Room" 54 ⟨"SharingRoom$Party", "<init>", "()V"⟩ "SharingRoom" ∈ lw_tbl := List.mem_of_getElem? (i := 230) rfl
set_option maxRecDepth 100000 in
theorem w231 : Cond.instanceMethod ⟨"SharingRoom$Party", "<init>", "()V"⟩ ∈ jWS := jm 231 rfl rfl
set_option maxRecDepth 100000 in
theorem w232 : Cond.code ⟨"SharingRoom$Party", "<init>", "()V"⟩ prog_7_method_1_code 1 none ∈ jWS := jm 232 rfl rfl
theorem L0_Party_init : jL0 y_Party_init m_Party_init 0 := ⟨w232, w74, ⟨by decide +kernel, by decide +kernel⟩, by decide +kernel, by decide +kernel⟩
set_option maxRecDepth 100000 in
theorem w186 : Cond.methodLink "SharingRoom" 40 ⟨"SharingRoom$Room", "<init>", "(LSharingRoom$Group;LSharingRoom$Group;)V"⟩ ∈ jWS := jm 186 rfl rfl
set_option maxRecDepth 100000 in
theorem w187 : Cond.instanceMethod ⟨"SharingRoom$Room", "<init>", "(LSharingRoom$Group;LSharingRoom$Group;)V"⟩ ∈ jWS := jm 187 rfl rfl
set_option maxRecDepth 100000 in
theorem w188 : Cond.code ⟨"SharingRoom$Room", "<init>", "(LSharingRoom$Group;LSharingRoom$Group;)V"⟩ prog_10_method_1_code 4 none ∈ jWS := jm 188 rfl rfl
theorem L0_Room_init : jL0 y_Room_init m_Room_init 2 := ⟨w188, w68, ⟨by decide +kernel, by decide +kernel⟩, by decide +kernel, by decide +kernel⟩
theorem fp_SR_43_0 : jFp "SharingRoom" "<init>" 43 0 2 (.object "SharingRoom$Room") := ⟨fl_SR_43_0, "SharingRoom", T_SR, 3, ty_SR, rfl, tk_SR, nm_SR, rfl, Or.inr ⟨rfl, rfl, rfl⟩⟩
/-! ===== constructors ===== -/
theorem jraI (U : State) (c1 c2 : ClassId) (h1 : va_RA U c1 .int) (h2 : va_RA U c2 .int) : c1 = c2 := Option.some.inj ((show _ = some c1 from h1).symm.trans (show _ = some c2 from h2))
theorem jraB (U : State) (c1 c2 : ClassId) (h1 : va_RA U c1 .byte) (h2 : va_RA U c2 .byte) : c1 = c2 := Option.some.inj ((show _ = some c1 from h1).symm.trans (show _ = some c2 from h2))
theorem j_newi {G : jG} {M : jM} {d mc ms : Nat} {P : jR → va_W → Prop} {pc : Nat} {lv : List (Nat × Value)} {st : List Value} {ws : va_W} {k n : Nat} {x : Int32} {N : Nat} (harr : Cond.arrayClass .int ∈ jWS) (hn : ¬ x < 0) (hN : x.toNatClampNeg = N) (hby : N ≤ 100000)
    (hd : decode M.2.1 pc = .ok (.newarray .int, 2)) (hc : k + 1 ≤ mc) (hs : n + N ≤ ms) (kk : ∀ q : Nat, J G M d mc ms P (pc + 2) lv (.ref q :: st) (ws ++ [(q, .inl (G.1 0, N, .inl (fun _ => 0)))]) (k + 1) (n + N)) : J G M d mc ms P pc lv (.int x :: st) ws k n :=
  j_newa (aty := .int) (ty := .int) (a0 := (N, .inl (fun _ => 0))) 0 rfl rfl jraI harr (fun cA => rfl) hn hN (by show N * 4 ≤ 536870912; omega) hd hc hs kk
theorem j_newb {G : jG} {M : jM} {d mc ms : Nat} {P : jR → va_W → Prop} {pc : Nat} {lv : List (Nat × Value)} {st : List Value} {ws : va_W} {k n : Nat} {x : Int32} {N : Nat} (harr : Cond.arrayClass .byte ∈ jWS) (hn : ¬ x < 0) (hN : x.toNatClampNeg = N) (hby : N ≤ 100000)
    (hd : decode M.2.1 pc = .ok (.newarray .byte, 2)) (hc : k + 1 ≤ mc) (hs : n + N ≤ ms) (kk : ∀ q : Nat, J G M d mc ms P (pc + 2) lv (.ref q :: st) (ws ++ [(q, .inl (G.1 1, N, .inl (fun _ => 0)))]) (k + 1) (n + N)) : J G M d mc ms P pc lv (.int x :: st) ws k n :=
  j_newa (aty := .byte) (ty := .byte) (a0 := (N, .inl (fun _ => 0))) 1 rfl rfl jraB harr (fun cA => rfl) hn hN (by show N * 1 ≤ 536870912; omega) hd hc hs kk
theorem rT2_eq (r : Nat → Nat) : ((2, .inr (.inr (.inr (.inr (fun i => if i < 2 then some (r i) else none))))) : vp_A) = rT2 (r 0) (r 1) := by
  unfold rT2
  congr
  funext k
  by_cases h : k < 2
  · rw [if_pos h, if_pos h]
    match k, h with
    | 0, _ => rfl
    | 1, _ => rfl
  · rw [if_neg h, if_neg h]
theorem j_mna2 {G : jG} {M : jM} {d mc ms : Nat} {P : jR → va_W → Prop} {pc : Nat} {lv : List (Nat × Value)} {st : List Value} {ws : va_W} {k n : Nat} {ix K0 : Nat} {x : Int32} (hk : Cond.classLink M.1 ix ("[" ++ (FieldType.array .int).toString) ∈ jWS) (ho : Cond.arrayOver (.array .int) ∈ lw_tbl) (harr : Cond.arrayClass .int ∈ jWS) (hx : ¬ x < 0) (hK0 : x.toNatClampNeg = K0) (hb : K0 ≤ 1000) (hd : decode M.2.1 pc = .ok (.multianewarray ix 2, 4)) (hc : k + 3 ≤ mc) (hs : n + (2 + 2 * K0) ≤ ms)
    (kk : ∀ q q1 q2 : Nat, J G M d mc ms P (pc + 4) lv (.ref q :: st) (ws ++ [(q, .inl (G.1 6, rT2 q1 q2)), (q1, .inl (G.1 0, K0, .inl (fun _ => 0))), (q2, .inl (G.1 0, K0, .inl (fun _ => 0)))]) (k + 1 + 2) (n + 2 + 2 * K0)) : J G M d mc ms P pc lv (.int x :: .int 2 :: st) ws k n := by
  refine j_mna hk ho harr hx hK0 hb hd hc hs (fun q r => ?_)
  rw [rT2_eq]
  exact kk q (r 0) (r 1)
