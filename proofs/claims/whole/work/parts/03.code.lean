def y_SR_init : MethodName := ⟨"SharingRoom", "<init>", "()V"⟩
def m_SR_init : jM := ("SharingRoom", prog_1_method_1_code, 3, none, "<init>", [])
def t_SR_init : List (Nat × Instr × Nat) := [(0, .aload_n 0, 1), (1, .invokespecial 1, 3), (4, .new 7, 3), (7, .dup, 1), (8, .sipush 1019, 3), (11, .invokespecial 9, 3), (14, .astore_n 1, 1), (15, .new 7, 3), (18, .dup, 1), (19, .bipush 31, 2), (21, .invokespecial 9, 3), (24, .astore_n 2, 1), (25, .aload_n 0, 1), (26, .iconst 3, 1), (27, .anewarray 12, 3), (30, .dup, 1), (31, .iconst 0, 1), (32, .new 14, 3), (35, .dup, 1), (36, .invokespecial 16, 3), (39, .aastore, 1), (40, .dup, 1), (41, .iconst 1, 1), (42, .aload_n 1, 1), (43, .aastore, 1), (44, .dup, 1), (45, .iconst 2, 1), (46, .aload_n 2, 1), (47, .aastore, 1), (48, .putfield 17, 3), (51, .aload_n 0, 1), (52, .new 23, 3), (55, .dup, 1), (56, .aload_n 0, 1), (57, .getfield 17, 3), (60, .iconst 0, 1), (61, .aaload, 1), (62, .invokespecial 25, 3), (65, .putfield 28, 3), (68, .aload_n 0, 1), (69, .new 32, 3), (72, .dup, 1), (73, .new 34, 3), (76, .dup, 1), (77, .aload_n 1, 1), (78, .invokespecial 36, 3), (81, .new 37, 3), (84, .dup, 1), (85, .aload_n 2, 1), (86, .invokespecial 39, 3), (89, .invokespecial 40, 3), (92, .putfield 43, 3), (95, .return_, 1)]
set_option maxRecDepth 100000 in
theorem k_SR_init : jDec m_SR_init.2.1 t_SR_init := by decide +kernel
def y_Prime_init : MethodName := ⟨"SharingRoom$PrimeField", "<init>", "(I)V"⟩
def m_Prime_init : jM := ("SharingRoom$PrimeField", prog_9_method_1_code, 2, none, "<init>", [])
def t_Prime_init : List (Nat × Instr × Nat) := [(0, .aload_n 0, 1), (1, .iload_n 1, 1), (2, .invokespecial 1, 3), (5, .return_, 1)]
set_option maxRecDepth 100000 in
theorem k_Prime_init : jDec m_Prime_init.2.1 t_Prime_init := by decide +kernel
def y_Field_init : MethodName := ⟨"SharingRoom$Field", "<init>", "(I)V"⟩
def m_Field_init : jM := ("SharingRoom$Field", prog_5_method_1_code, 2, none, "<init>", [])
def t_Field_init : List (Nat × Instr × Nat) := [(0, .aload_n 0, 1), (1, .invokespecial 1, 3), (4, .aload_n 0, 1), (5, .iload_n 1, 1), (6, .iconst 1, 1), (7, .if_icmp .le 7, 3), (10, .iload_n 1, 1), (11, .goto 4, 3), (14, .iconst 2, 1), (15, .putfield 7, 3), (18, .return_, 1)]
set_option maxRecDepth 100000 in
theorem k_Field_init : jDec m_Field_init.2.1 t_Field_init := by decide +kernel
def y_Byte_init : MethodName := ⟨"SharingRoom$ByteField", "<init>", "()V"⟩
def m_Byte_init : jM := ("SharingRoom$ByteField", prog_3_method_1_code, 1, none, "<init>", [])
def t_Byte_init : List (Nat × Instr × Nat) := [(0, .aload_n 0, 1), (1, .sipush 256, 3), (4, .invokespecial 1, 3), (7, .return_, 1)]
set_option maxRecDepth 100000 in
theorem k_Byte_init : jDec m_Byte_init.2.1 t_Byte_init := by decide +kernel
def y_Points_init : MethodName := ⟨"SharingRoom$Points", "<init>", "(LSharingRoom$Field;)V"⟩
def m_Points_init : jM := ("SharingRoom$Points", prog_8_method_1_code, 2, none, "<init>", [])
def t_Points_init : List (Nat × Instr × Nat) := [(0, .aload_n 0, 1), (1, .invokespecial 1, 3), (4, .aload_n 0, 1), (5, .bipush 12, 2), (7, .newarray .int, 2), (9, .putfield 9, 3), (12, .aload_n 0, 1), (13, .bipush 12, 2), (15, .newarray .int, 2), (17, .putfield 13, 3), (20, .aload_n 0, 1), (21, .bipush 12, 2), (23, .newarray .int, 2), (25, .putfield 16, 3), (28, .aload_n 0, 1), (29, .aload_n 1, 1), (30, .putfield 19, 3), (33, .return_, 1)]
set_option maxRecDepth 100000 in
theorem k_Points_init : jDec m_Points_init.2.1 t_Points_init := by decide +kernel
def y_Square_init : MethodName := ⟨"SharingRoom$SquareGroup", "<init>", "(LSharingRoom$Field;)V"⟩
def m_Square_init : jM := ("SharingRoom$SquareGroup", prog_12_method_1_code, 2, none, "<init>", [])
def t_Square_init : List (Nat × Instr × Nat) := [(0, .aload_n 0, 1), (1, .aload_n 1, 1), (2, .iconst 1, 1), (3, .iconst 4, 1), (4, .bipush 9, 2), (6, .invokespecial 1, 3), (9, .return_, 1)]
set_option maxRecDepth 100000 in
theorem k_Square_init : jDec m_Square_init.2.1 t_Square_init := by decide +kernel
def y_Group_init : MethodName := ⟨"SharingRoom$Group", "<init>", "(LSharingRoom$Field;III)V"⟩
def m_Group_init : jM := ("SharingRoom$Group", prog_6_method_1_code, 5, none, "<init>", [])
def t_Group_init : List (Nat × Instr × Nat) := [(0, .aload_n 0, 1), (1, .invokespecial 1, 3), (4, .aload_n 0, 1), (5, .aload_n 1, 1), (6, .putfield 7, 3), (9, .aload_n 0, 1), (10, .iload_n 2, 1), (11, .putfield 13, 3), (14, .aload_n 0, 1), (15, .iload_n 3, 1), (16, .putfield 17, 3), (19, .aload_n 0, 1), (20, .iload 4, 2), (22, .putfield 20, 3), (25, .return_, 1)]
set_option maxRecDepth 100000 in
theorem k_Group_init : jDec m_Group_init.2.1 t_Group_init := by decide +kernel
def y_Curve_init : MethodName := ⟨"SharingRoom$CurveGroup", "<init>", "(LSharingRoom$Field;)V"⟩
def m_Curve_init : jM := ("SharingRoom$CurveGroup", prog_4_method_1_code, 4, none, "<init>", [])
def t_Curve_init : List (Nat × Instr × Nat) := [(0, .aload_n 0, 1), (1, .aload_n 1, 1), (2, .sipush 4000, 3), (5, .sipush 140, 3), (8, .sipush 1362, 3), (11, .invokespecial 1, 3), (14, .aload_n 0, 1), (15, .bipush 43, 2), (17, .newarray .int, 2), (19, .putfield 9, 3), (22, .iconst 1, 1), (23, .istore_n 2, 1), (24, .iload_n 2, 1), (25, .bipush 43, 2), (27, .if_icmp .ge 40, 3), (30, .iconst 1, 1), (31, .istore_n 3, 1), (32, .iload_n 3, 1), (33, .bipush 43, 2), (35, .if_icmp .ge 26, 3), (38, .iload_n 2, 1), (39, .iload_n 3, 1), (40, .imul, 1), (41, .bipush 43, 2), (43, .irem, 1), (44, .iconst 1, 1), (45, .if_icmp .ne 10, 3), (48, .aload_n 0, 1), (49, .getfield 9, 3), (52, .iload_n 2, 1), (53, .iload_n 3, 1), (54, .iastore, 1), (55, .iinc 3 1, 3), (58, .goto (-26), 3), (61, .iinc 2 1, 3), (64, .goto (-40), 3), (67, .return_, 1)]
set_option maxRecDepth 100000 in
theorem k_Curve_init : jDec m_Curve_init.2.1 t_Curve_init := by decide +kernel
def y_Room_init : MethodName := ⟨"SharingRoom$Room", "<init>", "(LSharingRoom$Group;LSharingRoom$Group;)V"⟩
def m_Room_init : jM := ("SharingRoom$Room", prog_10_method_1_code, 4, none, "<init>", [])
def t_Room_init : List (Nat × Instr × Nat) := [(0, .aload_n 0, 1), (1, .invokespecial 3, 3), (4, .aload_n 0, 1), (5, .bipush 7, 2), (7, .anewarray 9, 3), (10, .putfield 11, 3), (13, .aload_n 0, 1), (14, .new 17, 3), (17, .dup, 1), (18, .invokespecial 19, 3), (21, .putfield 20, 3), (24, .aload_n 0, 1), (25, .bipush 8, 2), (27, .newarray .int, 2), (29, .putfield 24, 3), (32, .aload_n 0, 1), (33, .iconst 2, 1), (34, .anewarray 28, 3), (37, .dup, 1), (38, .iconst 0, 1), (39, .aload_n 1, 1), (40, .aastore, 1), (41, .dup, 1), (42, .iconst 1, 1), (43, .aload_n 2, 1), (44, .aastore, 1), (45, .putfield 30, 3), (48, .aload_n 0, 1), (49, .aload_n 1, 1), (50, .putfield 34, 3), (53, .aload_n 0, 1), (54, .aload_n 1, 1), (55, .getfield 38, 3), (58, .putfield 42, 3), (61, .aload_n 0, 1), (62, .new 45, 3), (65, .dup, 1), (66, .aload_n 0, 1), (67, .getfield 42, 3), (70, .invokespecial 47, 3), (73, .putfield 50, 3), (76, .iconst 0, 1), (77, .istore_n 3, 1), (78, .iload_n 3, 1), (79, .bipush 7, 2), (81, .if_icmp .ge 22, 3), (84, .aload_n 0, 1), (85, .getfield 11, 3), (88, .iload_n 3, 1), (89, .new 9, 3), (92, .dup, 1), (93, .invokespecial 54, 3), (96, .aastore, 1), (97, .iinc 3 1, 3), (100, .goto (-22), 3), (103, .return_, 1)]
set_option maxRecDepth 100000 in
theorem k_Room_init : jDec m_Room_init.2.1 t_Room_init := by decide +kernel
def y_Board_init : MethodName := ⟨"SharingRoom$Board", "<init>", "()V"⟩
def m_Board_init : jM := ("SharingRoom$Board", prog_2_method_1_code, 1, none, "<init>", [])
def t_Board_init : List (Nat × Instr × Nat) := [(0, .aload_n 0, 1), (1, .invokespecial 1, 3), (4, .aload_n 0, 1), (5, .sipush 1050, 3), (8, .newarray .byte, 2), (10, .putfield 9, 3), (13, .aload_n 0, 1), (14, .new 13, 3), (17, .dup, 1), (18, .invokespecial 15, 3), (21, .putfield 16, 3), (24, .return_, 1)]
set_option maxRecDepth 100000 in
theorem k_Board_init : jDec m_Board_init.2.1 t_Board_init := by decide +kernel
def y_Sha_init : MethodName := ⟨"SharingRoom$Sha256", "<init>", "()V"⟩
def m_Sha_init : jM := ("SharingRoom$Sha256", prog_11_method_1_code, 1, none, "<init>", [])
def t_Sha_init : List (Nat × Instr × Nat) := [(0, .aload_n 0, 1), (1, .invokespecial 1, 3), (4, .aload_n 0, 1), (5, .bipush 64, 2), (7, .newarray .int, 2), (9, .putfield 9, 3), (12, .aload_n 0, 1), (13, .bipush 8, 2), (15, .newarray .int, 2), (17, .putfield 13, 3), (20, .aload_n 0, 1), (21, .bipush 8, 2), (23, .newarray .int, 2), (25, .putfield 16, 3), (28, .return_, 1)]
set_option maxRecDepth 100000 in
theorem k_Sha_init : jDec m_Sha_init.2.1 t_Sha_init := by decide +kernel
def y_Party_init : MethodName := ⟨"SharingRoom$Party", "<init>", "()V"⟩
def m_Party_init : jM := ("SharingRoom$Party", prog_7_method_1_code, 1, none, "<init>", [])
def t_Party_init : List (Nat × Instr × Nat) := [(0, .aload_n 0, 1), (1, .invokespecial 3, 3), (4, .aload_n 0, 1), (5, .iconst 2, 1), (6, .bipush 7, 2), (8, .multianewarray 9 2, 4), (12, .putfield 11, 3), (15, .aload_n 0, 1), (16, .bipush 7, 2), (18, .newarray .int, 2), (20, .putfield 16, 3), (23, .aload_n 0, 1), (24, .iconst 2, 1), (25, .bipush 7, 2), (27, .multianewarray 9 2, 4), (31, .putfield 20, 3), (34, .aload_n 0, 1), (35, .iconst 2, 1), (36, .bipush 8, 2), (38, .multianewarray 9 2, 4), (42, .putfield 23, 3), (45, .aload_n 0, 1), (46, .iconst 2, 1), (47, .bipush 8, 2), (49, .multianewarray 9 2, 4), (53, .putfield 26, 3), (56, .aload_n 0, 1), (57, .iconst 2, 1), (58, .newarray .int, 2), (60, .putfield 29, 3), (63, .return_, 1)]
set_option maxRecDepth 100000 in
theorem k_Party_init : jDec m_Party_init.2.1 t_Party_init := by decide +kernel
def y_SR_degree : MethodName := ⟨"SharingRoom", "degree", "()I"⟩
def m_SR_degree : jM := ("SharingRoom", prog_1_method_5_code, 1, (some FieldType.int), "degree", [])
def t_SR_degree : List (Nat × Instr × Nat) := [(0, .aload_n 0, 1), (1, .getfield 28, 3), (4, .invokevirtual 91, 3), (7, .ireturn, 1)]
set_option maxRecDepth 100000 in
theorem k_SR_degree : jDec m_SR_degree.2.1 t_SR_degree := by decide +kernel
def y_Points_countCoefficients : MethodName := ⟨"SharingRoom$Points", "countCoefficients", "()I"⟩
def m_Points_countCoefficients : jM := ("SharingRoom$Points", prog_8_method_10_code, 5, (some FieldType.int), "countCoefficients", [])
def t_Points_countCoefficients : List (Nat × Instr × Nat) := [(0, .aload_n 0, 1), (1, .getfield 13, 3), (4, .iconst 0, 1), (5, .aload_n 0, 1), (6, .getfield 16, 3), (9, .iconst 0, 1), (10, .aload_n 0, 1), (11, .getfield 23, 3), (14, .invokestatic 50, 3), (17, .iconst 1, 1), (18, .istore_n 1, 1), (19, .iload_n 1, 1), (20, .aload_n 0, 1), (21, .getfield 23, 3), (24, .if_icmp .ge 95, 3), (27, .aload_n 0, 1), (28, .getfield 23, 3), (31, .iconst 1, 1), (32, .isub, 1), (33, .istore_n 2, 1), (34, .iload_n 2, 1), (35, .iload_n 1, 1), (36, .if_icmp .lt 77, 3), (39, .aload_n 0, 1), (40, .getfield 19, 3), (43, .aload_n 0, 1), (44, .getfield 16, 3), (47, .iload_n 2, 1), (48, .iaload, 1), (49, .aload_n 0, 1), (50, .getfield 16, 3), (53, .iload_n 2, 1), (54, .iconst 1, 1), (55, .isub, 1), (56, .iaload, 1), (57, .invokevirtual 43, 3), (60, .istore_n 3, 1), (61, .aload_n 0, 1), (62, .getfield 19, 3), (65, .aload_n 0, 1), (66, .getfield 9, 3), (69, .iload_n 2, 1), (70, .iaload, 1), (71, .aload_n 0, 1), (72, .getfield 9, 3), (75, .iload_n 2, 1), (76, .iload_n 1, 1), (77, .isub, 1), (78, .iaload, 1), (79, .invokevirtual 43, 3), (82, .istore 4, 2), (84, .aload_n 0, 1), (85, .getfield 16, 3), (88, .iload_n 2, 1), (89, .aload_n 0, 1), (90, .getfield 19, 3), (93, .iload_n 3, 1), (94, .aload_n 0, 1), (95, .getfield 19, 3), (98, .iload 4, 2), (100, .invokevirtual 46, 3), (103, .invokevirtual 37, 3), (106, .iastore, 1), (107, .iinc 2 (-1), 3), (110, .goto (-76), 3), (113, .iinc 1 1, 3), (116, .goto (-97), 3), (119, .aload_n 0, 1), (120, .getfield 23, 3), (123, .istore_n 1, 1), (124, .iload_n 1, 1), (125, .ifCond .le 20, 3), (128, .aload_n 0, 1), (129, .getfield 16, 3), (132, .iload_n 1, 1), (133, .iconst 1, 1), (134, .isub, 1), (135, .iaload, 1), (136, .ifCond .ne 9, 3), (139, .iinc 1 (-1), 3), (142, .goto (-18), 3), (145, .iload_n 1, 1), (146, .ireturn, 1)]
set_option maxRecDepth 100000 in
theorem k_Points_countCoefficients : jDec m_Points_countCoefficients.2.1 t_Points_countCoefficients := by decide +kernel
def y_Byte_minus : MethodName := ⟨"SharingRoom$ByteField", "minus", "(II)I"⟩
def m_Byte_minus : jM := ("SharingRoom$ByteField", prog_3_method_3_code, 3, (some FieldType.int), "minus", [])
def t_Byte_minus : List (Nat × Instr × Nat) := [(0, .iload_n 1, 1), (1, .iload_n 2, 1), (2, .ixor, 1), (3, .ireturn, 1)]
set_option maxRecDepth 100000 in
theorem k_Byte_minus : jDec m_Byte_minus.2.1 t_Byte_minus := by decide +kernel
def y_Prime_minus : MethodName := ⟨"SharingRoom$PrimeField", "minus", "(II)I"⟩
def m_Prime_minus : jM := ("SharingRoom$PrimeField", prog_9_method_3_code, 3, (some FieldType.int), "minus", [])
def t_Prime_minus : List (Nat × Instr × Nat) := [(0, .iload_n 1, 1), (1, .iload_n 2, 1), (2, .isub, 1), (3, .aload_n 0, 1), (4, .getfield 7, 3), (7, .iadd, 1), (8, .aload_n 0, 1), (9, .getfield 7, 3), (12, .irem, 1), (13, .ireturn, 1)]
set_option maxRecDepth 100000 in
theorem k_Prime_minus : jDec m_Prime_minus.2.1 t_Prime_minus := by decide +kernel
def y_Field_inverse : MethodName := ⟨"SharingRoom$Field", "inverse", "(I)I"⟩
def m_Field_inverse : jM := ("SharingRoom$Field", prog_5_method_6_code, 5, (some FieldType.int), "inverse", [])
def t_Field_inverse : List (Nat × Instr × Nat) := [(0, .iconst 1, 1), (1, .istore_n 2, 1), (2, .iload_n 1, 1), (3, .istore_n 3, 1), (4, .aload_n 0, 1), (5, .getfield 7, 3), (8, .iconst 2, 1), (9, .isub, 1), (10, .istore 4, 2), (12, .iload 4, 2), (14, .ifCond .le 34, 3), (17, .iload 4, 2), (19, .iconst 1, 1), (20, .iand, 1), (21, .iconst 1, 1), (22, .if_icmp .ne 10, 3), (25, .aload_n 0, 1), (26, .iload_n 2, 1), (27, .iload_n 3, 1), (28, .invokevirtual 13, 3), (31, .istore_n 2, 1), (32, .aload_n 0, 1), (33, .iload_n 3, 1), (34, .iload_n 3, 1), (35, .invokevirtual 13, 3), (38, .istore_n 3, 1), (39, .iload 4, 2), (41, .iconst 1, 1), (42, .ishr, 1), (43, .istore 4, 2), (45, .goto (-33), 3), (48, .iload_n 2, 1), (49, .ireturn, 1)]
set_option maxRecDepth 100000 in
theorem k_Field_inverse : jDec m_Field_inverse.2.1 t_Field_inverse := by decide +kernel
def y_Byte_times : MethodName := ⟨"SharingRoom$ByteField", "times", "(II)I"⟩
def m_Byte_times : jM := ("SharingRoom$ByteField", prog_3_method_4_code, 6, (some FieldType.int), "times", [])
def t_Byte_times : List (Nat × Instr × Nat) := [(0, .iconst 0, 1), (1, .istore_n 3, 1), (2, .iload_n 1, 1), (3, .istore 4, 2), (5, .iconst 0, 1), (6, .istore 5, 2), (8, .iload 5, 2), (10, .bipush 8, 2), (12, .if_icmp .ge 46, 3), (15, .iload_n 2, 1), (16, .iload 5, 2), (18, .ishr, 1), (19, .iconst 1, 1), (20, .iand, 1), (21, .iconst 1, 1), (22, .if_icmp .ne 8, 3), (25, .iload_n 3, 1), (26, .iload 4, 2), (28, .ixor, 1), (29, .istore_n 3, 1), (30, .iload 4, 2), (32, .iconst 1, 1), (33, .ishl, 1), (34, .istore 4, 2), (36, .iload 4, 2), (38, .sipush 255, 3), (41, .if_icmp .le 11, 3), (44, .iload 4, 2), (46, .sipush 283, 3), (49, .ixor, 1), (50, .istore 4, 2), (52, .iinc 5 1, 3), (55, .goto (-47), 3), (58, .iload_n 3, 1), (59, .ireturn, 1)]
set_option maxRecDepth 100000 in
theorem k_Byte_times : jDec m_Byte_times.2.1 t_Byte_times := by decide +kernel
def y_Prime_times : MethodName := ⟨"SharingRoom$PrimeField", "times", "(II)I"⟩
def m_Prime_times : jM := ("SharingRoom$PrimeField", prog_9_method_4_code, 3, (some FieldType.int), "times", [])
def t_Prime_times : List (Nat × Instr × Nat) := [(0, .iload_n 1, 1), (1, .iload_n 2, 1), (2, .imul, 1), (3, .aload_n 0, 1), (4, .getfield 7, 3), (7, .irem, 1), (8, .ireturn, 1)]
set_option maxRecDepth 100000 in
theorem k_Prime_times : jDec m_Prime_times.2.1 t_Prime_times := by decide +kernel
def y_SR_state : MethodName := ⟨"SharingRoom", "state", "()I"⟩
def m_SR_state : jM := ("SharingRoom", prog_1_method_11_code, 1, (some FieldType.int), "state", [])
def t_SR_state : List (Nat × Instr × Nat) := [(0, .aload_n 0, 1), (1, .getfield 43, 3), (4, .invokevirtual 145, 3), (7, .ireturn, 1)]
set_option maxRecDepth 100000 in
theorem k_SR_state : jDec m_SR_state.2.1 t_SR_state := by decide +kernel
def y_Room_stage : MethodName := ⟨"SharingRoom$Room", "stage", "()I"⟩
def m_Room_stage : jM := ("SharingRoom$Room", prog_10_method_13_code, 1, (some FieldType.int), "stage", [])
def t_Room_stage : List (Nat × Instr × Nat) := [(0, .aload_n 0, 1), (1, .getfield 72, 3), (4, .ireturn, 1)]
set_option maxRecDepth 100000 in
theorem k_Room_stage : jDec m_Room_stage.2.1 t_Room_stage := by decide +kernel
def y_SR_parties : MethodName := ⟨"SharingRoom", "parties", "(I)I"⟩
def m_SR_parties : jM := ("SharingRoom", prog_1_method_12_code, 2, (some FieldType.int), "parties", [])
def t_SR_parties : List (Nat × Instr × Nat) := [(0, .iload_n 1, 1), (1, .tableswitch 63 0 3 #[31, 39, 47, 55], 31), (32, .aload_n 0, 1), (33, .getfield 43, 3), (36, .invokevirtual 153, 3), (39, .ireturn, 1), (40, .aload_n 0, 1), (41, .getfield 43, 3), (44, .invokevirtual 156, 3), (47, .ireturn, 1), (48, .aload_n 0, 1), (49, .getfield 43, 3), (52, .invokevirtual 159, 3), (55, .ireturn, 1), (56, .aload_n 0, 1), (57, .getfield 43, 3), (60, .invokevirtual 162, 3), (63, .ireturn, 1), (64, .iconst (-1), 1), (65, .ireturn, 1)]
set_option maxRecDepth 100000 in
theorem k_SR_parties : jDec m_SR_parties.2.1 t_SR_parties := by decide +kernel
def y_Room_qualifiedBits : MethodName := ⟨"SharingRoom$Room", "qualifiedBits", "()I"⟩
def m_Room_qualifiedBits : jM := ("SharingRoom$Room", prog_10_method_16_code, 1, (some FieldType.int), "qualifiedBits", [])
def t_Room_qualifiedBits : List (Nat × Instr × Nat) := [(0, .aload_n 0, 1), (1, .getfield 78, 3), (4, .aload_n 0, 1), (5, .invokevirtual 62, 3), (8, .iand, 1), (9, .ireturn, 1)]
set_option maxRecDepth 100000 in
theorem k_Room_qualifiedBits : jDec m_Room_qualifiedBits.2.1 t_Room_qualifiedBits := by decide +kernel
def y_Room_everybody : MethodName := ⟨"SharingRoom$Room", "everybody", "()I"⟩
def m_Room_everybody : jM := ("SharingRoom$Room", prog_10_method_52_code, 1, (some FieldType.int), "everybody", [])
def t_Room_everybody : List (Nat × Instr × Nat) := [(0, .iconst 1, 1), (1, .aload_n 0, 1), (2, .getfield 55, 3), (5, .ishl, 1), (6, .iconst 1, 1), (7, .isub, 1), (8, .ireturn, 1)]
set_option maxRecDepth 100000 in
theorem k_Room_everybody : jDec m_Room_everybody.2.1 t_Room_everybody := by decide +kernel
def y_Room_accusedBits : MethodName := ⟨"SharingRoom$Room", "accusedBits", "()I"⟩
def m_Room_accusedBits : jM := ("SharingRoom$Room", prog_10_method_17_code, 1, (some FieldType.int), "accusedBits", [])
def t_Room_accusedBits : List (Nat × Instr × Nat) := [(0, .aload_n 0, 1), (1, .getfield 81, 3), (4, .aload_n 0, 1), (5, .invokevirtual 62, 3), (8, .iand, 1), (9, .ireturn, 1)]
set_option maxRecDepth 100000 in
theorem k_Room_accusedBits : jDec m_Room_accusedBits.2.1 t_Room_accusedBits := by decide +kernel
def y_Room_openedBits : MethodName := ⟨"SharingRoom$Room", "openedBits", "()I"⟩
def m_Room_openedBits : jM := ("SharingRoom$Room", prog_10_method_18_code, 1, (some FieldType.int), "openedBits", [])
def t_Room_openedBits : List (Nat × Instr × Nat) := [(0, .aload_n 0, 1), (1, .getfield 84, 3), (4, .aload_n 0, 1), (5, .invokevirtual 62, 3), (8, .iand, 1), (9, .ireturn, 1)]
set_option maxRecDepth 100000 in
theorem k_Room_openedBits : jDec m_Room_openedBits.2.1 t_Room_openedBits := by decide +kernel
def y_Room_workingBits : MethodName := ⟨"SharingRoom$Room", "workingBits", "()I"⟩
def m_Room_workingBits : jM := ("SharingRoom$Room", prog_10_method_19_code, 4, (some FieldType.int), "workingBits", [])
def t_Room_workingBits : List (Nat × Instr × Nat) := [(0, .iconst 0, 1), (1, .istore_n 1, 1), (2, .iconst 1, 1), (3, .istore_n 2, 1), (4, .iload_n 2, 1), (5, .aload_n 0, 1), (6, .getfield 55, 3), (9, .if_icmp .gt 54, 3), (12, .aload_n 0, 1), (13, .getfield 72, 3), (16, .iconst 1, 1), (17, .if_icmp .ne 20, 3), (20, .aload_n 0, 1), (21, .iload_n 2, 1), (22, .invokevirtual 96, 3), (25, .aload_n 0, 1), (26, .getfield 75, 3), (29, .iconst 1, 1), (30, .iadd, 1), (31, .invokevirtual 122, 3), (34, .goto 11, 3), (37, .aload_n 0, 1), (38, .iload_n 2, 1), (39, .invokevirtual 96, 3), (42, .invokevirtual 126, 3), (45, .istore_n 3, 1), (46, .iload_n 3, 1), (47, .ifCond .eq 10, 3), (50, .iload_n 1, 1), (51, .iload_n 2, 1), (52, .invokestatic 130, 3), (55, .ior, 1), (56, .istore_n 1, 1), (57, .iinc 2 1, 3), (60, .goto (-56), 3), (63, .iload_n 1, 1), (64, .ireturn, 1)]
set_option maxRecDepth 100000 in
theorem k_Room_workingBits : jDec m_Room_workingBits.2.1 t_Room_workingBits := by decide +kernel
def y_Room_party : MethodName := ⟨"SharingRoom$Room", "party", "(I)LSharingRoom$Party;"⟩
def m_Room_party : jM := ("SharingRoom$Room", prog_10_method_53_code, 2, (some (FieldType.object "SharingRoom$Party")), "party", [])
def t_Room_party : List (Nat × Instr × Nat) := [(0, .aload_n 0, 1), (1, .getfield 11, 3), (4, .iload_n 1, 1), (5, .iconst 1, 1), (6, .isub, 1), (7, .aaload, 1), (8, .areturn, 1)]
set_option maxRecDepth 100000 in
theorem k_Room_party : jDec m_Room_party.2.1 t_Room_party := by decide +kernel
def y_Party_worksIn : MethodName := ⟨"SharingRoom$Party", "worksIn", "(I)Z"⟩
def m_Party_worksIn : jM := ("SharingRoom$Party", prog_7_method_5_code, 2, (some FieldType.boolean), "worksIn", [])
def t_Party_worksIn : List (Nat × Instr × Nat) := [(0, .iload_n 1, 1), (1, .aload_n 0, 1), (2, .getfield 52, 3), (5, .if_icmp .ge 7, 3), (8, .iconst 1, 1), (9, .goto 4, 3), (12, .iconst 0, 1), (13, .ireturn, 1)]
set_option maxRecDepth 100000 in
theorem k_Party_worksIn : jDec m_Party_worksIn.2.1 t_Party_worksIn := by decide +kernel
def y_Party_neverCrashes : MethodName := ⟨"SharingRoom$Party", "neverCrashes", "()Z"⟩
def m_Party_neverCrashes : jM := ("SharingRoom$Party", prog_7_method_6_code, 1, (some FieldType.boolean), "neverCrashes", [])
def t_Party_neverCrashes : List (Nat × Instr × Nat) := [(0, .aload_n 0, 1), (1, .getfield 52, 3), (4, .bipush 8, 2), (6, .if_icmp .ne 7, 3), (9, .iconst 1, 1), (10, .goto 4, 3), (13, .iconst 0, 1), (14, .ireturn, 1)]
set_option maxRecDepth 100000 in
theorem k_Party_neverCrashes : jDec m_Party_neverCrashes.2.1 t_Party_neverCrashes := by decide +kernel
def y_SR_bit : MethodName := ⟨"SharingRoom", "bit", "(I)I"⟩
def m_SR_bit : jM := ("SharingRoom", prog_1_method_30_code, 1, (some FieldType.int), "bit", [])
def t_SR_bit : List (Nat × Instr × Nat) := [(0, .iconst 1, 1), (1, .iload_n 0, 1), (2, .iconst 1, 1), (3, .isub, 1), (4, .ishl, 1), (5, .ireturn, 1)]
set_option maxRecDepth 100000 in
theorem k_SR_bit : jDec m_SR_bit.2.1 t_SR_bit := by decide +kernel
def y_SR_board : MethodName := ⟨"SharingRoom", "board", "()I"⟩
def m_SR_board : jM := ("SharingRoom", prog_1_method_17_code, 1, (some FieldType.int), "board", [])
def t_SR_board : List (Nat × Instr × Nat) := [(0, .aload_n 0, 1), (1, .getfield 43, 3), (4, .invokevirtual 179, 3), (7, .invokevirtual 183, 3), (10, .ireturn, 1)]
set_option maxRecDepth 100000 in
theorem k_SR_board : jDec m_SR_board.2.1 t_SR_board := by decide +kernel
def y_Room_shownToAll : MethodName := ⟨"SharingRoom$Room", "shownToAll", "()LSharingRoom$Board;"⟩
def m_Room_shownToAll : jM := ("SharingRoom$Room", prog_10_method_14_code, 1, (some (FieldType.object "SharingRoom$Board")), "shownToAll", [])
def t_Room_shownToAll : List (Nat × Instr × Nat) := [(0, .aload_n 0, 1), (1, .getfield 20, 3), (4, .areturn, 1)]
set_option maxRecDepth 100000 in
theorem k_Room_shownToAll : jDec m_Room_shownToAll.2.1 t_Room_shownToAll := by decide +kernel
def y_Board_size : MethodName := ⟨"SharingRoom$Board", "size", "()I"⟩
def m_Board_size : jM := ("SharingRoom$Board", prog_2_method_3_code, 1, (some FieldType.int), "size", [])
def t_Board_size : List (Nat × Instr × Nat) := [(0, .aload_n 0, 1), (1, .getfield 20, 3), (4, .ireturn, 1)]
set_option maxRecDepth 100000 in
theorem k_Board_size : jDec m_Board_size.2.1 t_Board_size := by decide +kernel
def y_SR_key : MethodName := ⟨"SharingRoom", "key", "()I"⟩
def m_SR_key : jM := ("SharingRoom", prog_1_method_20_code, 1, (some FieldType.int), "key", [])
def t_SR_key : List (Nat × Instr × Nat) := [(0, .aload_n 0, 1), (1, .getfield 43, 3), (4, .invokevirtual 145, 3), (7, .iconst 2, 1), (8, .if_icmp .ne 13, 3), (11, .aload_n 0, 1), (12, .getfield 43, 3), (15, .invokevirtual 201, 3), (18, .goto 4, 3), (21, .iconst (-1), 1), (22, .ireturn, 1)]
set_option maxRecDepth 100000 in
theorem k_SR_key : jDec m_SR_key.2.1 t_SR_key := by decide +kernel
def y_Room_commonKey : MethodName := ⟨"SharingRoom$Room", "commonKey", "()I"⟩
def m_Room_commonKey : jM := ("SharingRoom$Room", prog_10_method_15_code, 1, (some FieldType.int), "commonKey", [])
def t_Room_commonKey : List (Nat × Instr × Nat) := [(0, .aload_n 0, 1), (1, .getfield 90, 3), (4, .ireturn, 1)]
set_option maxRecDepth 100000 in
theorem k_Room_commonKey : jDec m_Room_commonKey.2.1 t_Room_commonKey := by decide +kernel
def y_Law_field : MethodName := ⟨"SharingRoomLaw", "field", "(LSharingRoom;I)I"⟩
def m_Law_field : jM := ("SharingRoomLaw", method_3_code, 3, (some FieldType.int), "field", [(0, 5, 8, 13)])
def t_Law_field : List (Nat × Instr × Nat) := [(0, .aload_n 0, 1), (1, .iload_n 1, 1), (2, .invokevirtual 7, 3), (5, .goto 6, 3), (8, .astore_n 2, 1), (9, .iconst 1, 1), (10, .ireturn, 1), (11, .iconst 0, 1), (12, .ireturn, 1)]
set_option maxRecDepth 100000 in
theorem k_Law_field : jDec m_Law_field.2.1 t_Law_field := by decide +kernel
def y_SR_field : MethodName := ⟨"SharingRoom", "field", "(I)V"⟩
def m_SR_field : jM := ("SharingRoom", prog_1_method_2_code, 2, none, "field", [])
def t_SR_field : List (Nat × Instr × Nat) := [(0, .iload_n 1, 1), (1, .ifCond .lt 12, 3), (4, .iload_n 1, 1), (5, .aload_n 0, 1), (6, .getfield 17, 3), (9, .arraylength, 1), (10, .if_icmp .lt 13, 3), (13, .new 47, 3), (16, .dup, 1), (17, .ldc 49, 2), (19, .invokespecial 51, 3), (22, .athrow, 1), (23, .aload_n 0, 1), (24, .getfield 28, 3), (27, .aload_n 0, 1), (28, .getfield 17, 3), (31, .iload_n 1, 1), (32, .aaload, 1), (33, .invokevirtual 54, 3), (36, .return_, 1)]
set_option maxRecDepth 100000 in
theorem k_SR_field : jDec m_SR_field.2.1 t_SR_field := by decide +kernel
def y_Points_clear : MethodName := ⟨"SharingRoom$Points", "clear", "(LSharingRoom$Field;)V"⟩
def m_Points_clear : jM := ("SharingRoom$Points", prog_8_method_2_code, 2, none, "clear", [])
def t_Points_clear : List (Nat × Instr × Nat) := [(0, .aload_n 0, 1), (1, .aload_n 1, 1), (2, .putfield 19, 3), (5, .aload_n 0, 1), (6, .iconst 0, 1), (7, .putfield 23, 3), (10, .return_, 1)]
set_option maxRecDepth 100000 in
theorem k_Points_clear : jDec m_Points_clear.2.1 t_Points_clear := by decide +kernel
def y_Law_point : MethodName := ⟨"SharingRoomLaw", "point", "(LSharingRoom;II[J)I"⟩
def m_Law_point : jM := ("SharingRoomLaw", method_4_code, 5, (some FieldType.int), "point", [(0, 10, 13, 13), (0, 10, 17, 19)])
def t_Law_point : List (Nat × Instr × Nat) := [(0, .aload_n 3, 1), (1, .iconst 0, 1), (2, .aload_n 0, 1), (3, .iload_n 1, 1), (4, .iload_n 2, 1), (5, .invokevirtual 15, 3), (8, .i2l, 1), (9, .lastore, 1), (10, .goto 11, 3), (13, .astore 4, 2), (15, .iconst 1, 1), (16, .ireturn, 1), (17, .astore 4, 2), (19, .iconst 2, 1), (20, .ireturn, 1), (21, .iconst 0, 1), (22, .ireturn, 1)]
set_option maxRecDepth 100000 in
theorem k_Law_point : jDec m_Law_point.2.1 t_Law_point := by decide +kernel
def y_SR_point : MethodName := ⟨"SharingRoom", "point", "(II)I"⟩
def m_SR_point : jM := ("SharingRoom", prog_1_method_3_code, 3, (some FieldType.int), "point", [])
def t_SR_point : List (Nat × Instr × Nat) := [(0, .iload_n 1, 1), (1, .iconst 1, 1), (2, .if_icmp .lt 25, 3), (5, .aload_n 0, 1), (6, .getfield 28, 3), (9, .iload_n 1, 1), (10, .invokevirtual 57, 3), (13, .ifCond .eq 14, 3), (16, .aload_n 0, 1), (17, .getfield 28, 3), (20, .iload_n 2, 1), (21, .invokevirtual 57, 3), (24, .ifCond .ne 13, 3), (27, .new 47, 3), (30, .dup, 1), (31, .ldc 61, 2), (33, .invokespecial 51, 3), (36, .athrow, 1), (37, .aload_n 0, 1), (38, .getfield 28, 3), (41, .iload_n 1, 1), (42, .invokevirtual 63, 3), (45, .ifCond .ne 13, 3), (48, .aload_n 0, 1), (49, .getfield 28, 3), (52, .invokevirtual 66, 3), (55, .ifCond .eq 13, 3), (58, .new 70, 3), (61, .dup, 1), (62, .ldc 72, 2), (64, .invokespecial 74, 3), (67, .athrow, 1), (68, .aload_n 0, 1), (69, .getfield 28, 3), (72, .iload_n 1, 1), (73, .iload_n 2, 1), (74, .invokevirtual 75, 3), (77, .aload_n 0, 1), (78, .getfield 28, 3), (81, .invokevirtual 79, 3), (84, .ireturn, 1)]
set_option maxRecDepth 100000 in
theorem k_SR_point : jDec m_SR_point.2.1 t_SR_point := by decide +kernel
def y_Points_inField : MethodName := ⟨"SharingRoom$Points", "inField", "(I)Z"⟩
def m_Points_inField : jM := ("SharingRoom$Points", prog_8_method_5_code, 2, (some FieldType.boolean), "inField", [])
def t_Points_inField : List (Nat × Instr × Nat) := [(0, .aload_n 0, 1), (1, .getfield 19, 3), (4, .iload_n 1, 1), (5, .invokevirtual 27, 3), (8, .ireturn, 1)]
set_option maxRecDepth 100000 in
theorem k_Points_inField : jDec m_Points_inField.2.1 t_Points_inField := by decide +kernel
def y_Field_has : MethodName := ⟨"SharingRoom$Field", "has", "(I)Z"⟩
def m_Field_has : jM := ("SharingRoom$Field", prog_5_method_5_code, 2, (some FieldType.boolean), "has", [])
def t_Field_has : List (Nat × Instr × Nat) := [(0, .iload_n 1, 1), (1, .ifCond .lt 15, 3), (4, .iload_n 1, 1), (5, .aload_n 0, 1), (6, .getfield 7, 3), (9, .if_icmp .ge 7, 3), (12, .iconst 1, 1), (13, .goto 4, 3), (16, .iconst 0, 1), (17, .ireturn, 1)]
set_option maxRecDepth 100000 in
theorem k_Field_has : jDec m_Field_has.2.1 t_Field_has := by decide +kernel
def y_Points_hasAt : MethodName := ⟨"SharingRoom$Points", "hasAt", "(I)Z"⟩
def m_Points_hasAt : jM := ("SharingRoom$Points", prog_8_method_6_code, 3, (some FieldType.boolean), "hasAt", [])
def t_Points_hasAt : List (Nat × Instr × Nat) := [(0, .iconst 0, 1), (1, .istore_n 2, 1), (2, .iload_n 2, 1), (3, .aload_n 0, 1), (4, .getfield 23, 3), (7, .if_icmp .ge 21, 3), (10, .aload_n 0, 1), (11, .getfield 9, 3), (14, .iload_n 2, 1), (15, .iaload, 1), (16, .iload_n 1, 1), (17, .if_icmp .ne 5, 3), (20, .iconst 1, 1), (21, .ireturn, 1), (22, .iinc 2 1, 3), (25, .goto (-23), 3), (28, .iconst 0, 1), (29, .ireturn, 1)]
set_option maxRecDepth 100000 in
theorem k_Points_hasAt : jDec m_Points_hasAt.2.1 t_Points_hasAt := by decide +kernel
def y_Points_isFull : MethodName := ⟨"SharingRoom$Points", "isFull", "()Z"⟩
def m_Points_isFull : jM := ("SharingRoom$Points", prog_8_method_4_code, 1, (some FieldType.boolean), "isFull", [])
def t_Points_isFull : List (Nat × Instr × Nat) := [(0, .aload_n 0, 1), (1, .getfield 23, 3), (4, .bipush 12, 2), (6, .if_icmp .ne 7, 3), (9, .iconst 1, 1), (10, .goto 4, 3), (13, .iconst 0, 1), (14, .ireturn, 1)]
set_option maxRecDepth 100000 in
theorem k_Points_isFull : jDec m_Points_isFull.2.1 t_Points_isFull := by decide +kernel
def y_Points_add : MethodName := ⟨"SharingRoom$Points", "add", "(II)V"⟩
def m_Points_add : jM := ("SharingRoom$Points", prog_8_method_7_code, 3, none, "add", [])
def t_Points_add : List (Nat × Instr × Nat) := [(0, .aload_n 0, 1), (1, .getfield 23, 3), (4, .bipush 12, 2), (6, .if_icmp .ge 33, 3), (9, .aload_n 0, 1), (10, .getfield 9, 3), (13, .aload_n 0, 1), (14, .getfield 23, 3), (17, .iload_n 1, 1), (18, .iastore, 1), (19, .aload_n 0, 1), (20, .getfield 13, 3), (23, .aload_n 0, 1), (24, .getfield 23, 3), (27, .iload_n 2, 1), (28, .iastore, 1), (29, .aload_n 0, 1), (30, .dup, 1), (31, .getfield 23, 3), (34, .iconst 1, 1), (35, .iadd, 1), (36, .putfield 23, 3), (39, .return_, 1)]
set_option maxRecDepth 100000 in
theorem k_Points_add : jDec m_Points_add.2.1 t_Points_add := by decide +kernel
def y_Points_size : MethodName := ⟨"SharingRoom$Points", "size", "()I"⟩
def m_Points_size : jM := ("SharingRoom$Points", prog_8_method_3_code, 1, (some FieldType.int), "size", [])
def t_Points_size : List (Nat × Instr × Nat) := [(0, .aload_n 0, 1), (1, .getfield 23, 3), (4, .ireturn, 1)]
set_option maxRecDepth 100000 in
theorem k_Points_size : jDec m_Points_size.2.1 t_Points_size := by decide +kernel
def y_Law_combine : MethodName := ⟨"SharingRoomLaw", "combine", "(LSharingRoom;I[J)I"⟩
def m_Law_combine : jM := ("SharingRoomLaw", method_5_code, 4, (some FieldType.int), "combine", [(0, 9, 12, 13), (0, 9, 15, 19)])
def t_Law_combine : List (Nat × Instr × Nat) := [(0, .aload_n 2, 1), (1, .iconst 0, 1), (2, .aload_n 0, 1), (3, .iload_n 1, 1), (4, .invokevirtual 21, 3), (7, .i2l, 1), (8, .lastore, 1), (9, .goto 9, 3), (12, .astore_n 3, 1), (13, .iconst 1, 1), (14, .ireturn, 1), (15, .astore_n 3, 1), (16, .iconst 2, 1), (17, .ireturn, 1), (18, .iconst 0, 1), (19, .ireturn, 1)]
set_option maxRecDepth 100000 in
theorem k_Law_combine : jDec m_Law_combine.2.1 t_Law_combine := by decide +kernel
def y_SR_combine : MethodName := ⟨"SharingRoom", "combine", "(I)I"⟩
def m_SR_combine : jM := ("SharingRoom", prog_1_method_4_code, 2, (some FieldType.int), "combine", [])
def t_SR_combine : List (Nat × Instr × Nat) := [(0, .aload_n 0, 1), (1, .getfield 28, 3), (4, .iload_n 1, 1), (5, .invokevirtual 57, 3), (8, .ifCond .ne 13, 3), (11, .new 47, 3), (14, .dup, 1), (15, .ldc 83, 2), (17, .invokespecial 51, 3), (20, .athrow, 1), (21, .aload_n 0, 1), (22, .getfield 28, 3), (25, .invokevirtual 79, 3), (28, .ifCond .ne 13, 3), (31, .new 70, 3), (34, .dup, 1), (35, .ldc 85, 2), (37, .invokespecial 74, 3), (40, .athrow, 1), (41, .aload_n 0, 1), (42, .getfield 28, 3), (45, .iload_n 1, 1), (46, .invokevirtual 87, 3), (49, .ireturn, 1)]
set_option maxRecDepth 100000 in
theorem k_SR_combine : jDec m_SR_combine.2.1 t_SR_combine := by decide +kernel
def y_Points_valueAt : MethodName := ⟨"SharingRoom$Points", "valueAt", "(I)I"⟩
def m_Points_valueAt : jM := ("SharingRoom$Points", prog_8_method_8_code, 4, (some FieldType.int), "valueAt", [])
def t_Points_valueAt : List (Nat × Instr × Nat) := [(0, .iconst 0, 1), (1, .istore_n 2, 1), (2, .iconst 0, 1), (3, .istore_n 3, 1), (4, .iload_n 3, 1), (5, .aload_n 0, 1), (6, .getfield 23, 3), (9, .if_icmp .ge 37, 3), (12, .aload_n 0, 1), (13, .getfield 19, 3), (16, .iload_n 2, 1), (17, .aload_n 0, 1), (18, .getfield 19, 3), (21, .aload_n 0, 1), (22, .iload_n 3, 1), (23, .iload_n 1, 1), (24, .invokevirtual 33, 3), (27, .aload_n 0, 1), (28, .getfield 13, 3), (31, .iload_n 3, 1), (32, .iaload, 1), (33, .invokevirtual 37, 3), (36, .invokevirtual 40, 3), (39, .istore_n 2, 1), (40, .iinc 3 1, 3), (43, .goto (-39), 3), (46, .iload_n 2, 1), (47, .ireturn, 1)]
set_option maxRecDepth 100000 in
theorem k_Points_valueAt : jDec m_Points_valueAt.2.1 t_Points_valueAt := by decide +kernel
def y_Points_weight : MethodName := ⟨"SharingRoom$Points", "weight", "(II)I"⟩
def m_Points_weight : jM := ("SharingRoom$Points", prog_8_method_9_code, 6, (some FieldType.int), "weight", [])
def t_Points_weight : List (Nat × Instr × Nat) := [(0, .iconst 1, 1), (1, .istore_n 3, 1), (2, .iconst 1, 1), (3, .istore 4, 2), (5, .iconst 0, 1), (6, .istore 5, 2), (8, .iload 5, 2), (10, .aload_n 0, 1), (11, .getfield 23, 3), (14, .if_icmp .ge 70, 3), (17, .iload 5, 2), (19, .iload_n 1, 1), (20, .if_icmp .eq 58, 3), (23, .aload_n 0, 1), (24, .getfield 19, 3), (27, .iload_n 3, 1), (28, .aload_n 0, 1), (29, .getfield 19, 3), (32, .iload_n 2, 1), (33, .aload_n 0, 1), (34, .getfield 9, 3), (37, .iload 5, 2), (39, .iaload, 1), (40, .invokevirtual 43, 3), (43, .invokevirtual 37, 3), (46, .istore_n 3, 1), (47, .aload_n 0, 1), (48, .getfield 19, 3), (51, .iload 4, 2), (53, .aload_n 0, 1), (54, .getfield 19, 3), (57, .aload_n 0, 1), (58, .getfield 9, 3), (61, .iload_n 1, 1), (62, .iaload, 1), (63, .aload_n 0, 1), (64, .getfield 9, 3), (67, .iload 5, 2), (69, .iaload, 1), (70, .invokevirtual 43, 3), (73, .invokevirtual 37, 3), (76, .istore 4, 2), (78, .iinc 5 1, 3), (81, .goto (-73), 3), (84, .aload_n 0, 1), (85, .getfield 19, 3), (88, .iload_n 3, 1), (89, .aload_n 0, 1), (90, .getfield 19, 3), (93, .iload 4, 2), (95, .invokevirtual 46, 3), (98, .invokevirtual 37, 3), (101, .ireturn, 1)]
set_option maxRecDepth 100000 in
theorem k_Points_weight : jDec m_Points_weight.2.1 t_Points_weight := by decide +kernel
def y_Byte_plus : MethodName := ⟨"SharingRoom$ByteField", "plus", "(II)I"⟩
def m_Byte_plus : jM := ("SharingRoom$ByteField", prog_3_method_2_code, 3, (some FieldType.int), "plus", [])
def t_Byte_plus : List (Nat × Instr × Nat) := [(0, .iload_n 1, 1), (1, .iload_n 2, 1), (2, .ixor, 1), (3, .ireturn, 1)]
set_option maxRecDepth 100000 in
theorem k_Byte_plus : jDec m_Byte_plus.2.1 t_Byte_plus := by decide +kernel
def y_Prime_plus : MethodName := ⟨"SharingRoom$PrimeField", "plus", "(II)I"⟩
def m_Prime_plus : jM := ("SharingRoom$PrimeField", prog_9_method_2_code, 3, (some FieldType.int), "plus", [])
def t_Prime_plus : List (Nat × Instr × Nat) := [(0, .iload_n 1, 1), (1, .iload_n 2, 1), (2, .iadd, 1), (3, .aload_n 0, 1), (4, .getfield 7, 3), (7, .irem, 1), (8, .ireturn, 1)]
set_option maxRecDepth 100000 in
theorem k_Prime_plus : jDec m_Prime_plus.2.1 t_Prime_plus := by decide +kernel
def y_Law_begin : MethodName := ⟨"SharingRoomLaw", "begin", "(LSharingRoom;III)I"⟩
def m_Law_begin : jM := ("SharingRoomLaw", method_6_code, 5, (some FieldType.int), "begin", [(0, 7, 10, 13)])
def t_Law_begin : List (Nat × Instr × Nat) := [(0, .aload_n 0, 1), (1, .iload_n 1, 1), (2, .iload_n 2, 1), (3, .iload_n 3, 1), (4, .invokevirtual 25, 3), (7, .goto 7, 3), (10, .astore 4, 2), (12, .iconst 1, 1), (13, .ireturn, 1), (14, .iconst 0, 1), (15, .ireturn, 1)]
set_option maxRecDepth 100000 in
theorem k_Law_begin : jDec m_Law_begin.2.1 t_Law_begin := by decide +kernel
def y_SR_begin : MethodName := ⟨"SharingRoom", "begin", "(III)V"⟩
def m_SR_begin : jM := ("SharingRoom", prog_1_method_6_code, 4, none, "begin", [])
def t_SR_begin : List (Nat × Instr × Nat) := [(0, .aload_n 0, 1), (1, .getfield 43, 3), (4, .iload_n 1, 1), (5, .invokevirtual 94, 3), (8, .ifCond .eq 11, 3), (11, .iload_n 2, 1), (12, .iload_n 3, 1), (13, .invokestatic 97, 3), (16, .ifCond .ne 13, 3), (19, .new 47, 3), (22, .dup, 1), (23, .ldc 101, 2), (25, .invokespecial 51, 3), (28, .athrow, 1), (29, .aload_n 0, 1), (30, .getfield 43, 3), (33, .iload_n 1, 1), (34, .iload_n 2, 1), (35, .iload_n 3, 1), (36, .invokevirtual 103, 3), (39, .return_, 1)]
set_option maxRecDepth 100000 in
theorem k_SR_begin : jDec m_SR_begin.2.1 t_SR_begin := by decide +kernel
def y_Room_hasGroup : MethodName := ⟨"SharingRoom$Room", "hasGroup", "(I)Z"⟩
def m_Room_hasGroup : jM := ("SharingRoom$Room", prog_10_method_3_code, 2, (some FieldType.boolean), "hasGroup", [])
def t_Room_hasGroup : List (Nat × Instr × Nat) := [(0, .iload_n 1, 1), (1, .ifCond .lt 16, 3), (4, .iload_n 1, 1), (5, .aload_n 0, 1), (6, .getfield 30, 3), (9, .arraylength, 1), (10, .if_icmp .ge 7, 3), (13, .iconst 1, 1), (14, .goto 4, 3), (17, .iconst 0, 1), (18, .ireturn, 1)]
set_option maxRecDepth 100000 in
theorem k_Room_hasGroup : jDec m_Room_hasGroup.2.1 t_Room_hasGroup := by decide +kernel
def y_Room_isCommittee : MethodName := ⟨"SharingRoom$Room", "isCommittee", "(II)Z"⟩
def m_Room_isCommittee : jM := ("SharingRoom$Room", prog_10_method_2_code, 2, (some FieldType.boolean), "isCommittee", [])
def t_Room_isCommittee : List (Nat × Instr × Nat) := [(0, .iload_n 0, 1), (1, .iconst 1, 1), (2, .if_icmp .lt 23, 3), (5, .iload_n 0, 1), (6, .bipush 7, 2), (8, .if_icmp .gt 17, 3), (11, .iload_n 1, 1), (12, .iconst 1, 1), (13, .if_icmp .lt 12, 3), (16, .iload_n 1, 1), (17, .iload_n 0, 1), (18, .if_icmp .gt 7, 3), (21, .iconst 1, 1), (22, .goto 4, 3), (25, .iconst 0, 1), (26, .ireturn, 1)]
set_option maxRecDepth 100000 in
theorem k_Room_isCommittee : jDec m_Room_isCommittee.2.1 t_Room_isCommittee := by decide +kernel
def y_Room_start : MethodName := ⟨"SharingRoom$Room", "start", "(III)V"⟩
def m_Room_start : jM := ("SharingRoom$Room", prog_10_method_9_code, 5, none, "start", [])
def t_Room_start : List (Nat × Instr × Nat) := [(0, .aload_n 0, 1), (1, .aload_n 0, 1), (2, .getfield 30, 3), (5, .iload_n 1, 1), (6, .aaload, 1), (7, .putfield 34, 3), (10, .aload_n 0, 1), (11, .aload_n 0, 1), (12, .getfield 34, 3), (15, .getfield 38, 3), (18, .putfield 42, 3), (21, .aload_n 0, 1), (22, .iload_n 2, 1), (23, .putfield 55, 3), (26, .aload_n 0, 1), (27, .iload_n 3, 1), (28, .putfield 59, 3), (31, .aload_n 0, 1), (32, .iconst 1, 1), (33, .putfield 72, 3), (36, .aload_n 0, 1), (37, .iconst 0, 1), (38, .putfield 75, 3), (41, .aload_n 0, 1), (42, .iconst 0, 1), (43, .putfield 78, 3), (46, .aload_n 0, 1), (47, .iconst 0, 1), (48, .putfield 81, 3), (51, .aload_n 0, 1), (52, .iconst 0, 1), (53, .putfield 84, 3), (56, .aload_n 0, 1), (57, .aload_n 0, 1), (58, .getfield 34, 3), (61, .getfield 87, 3), (64, .putfield 90, 3), (67, .aload_n 0, 1), (68, .getfield 20, 3), (71, .invokevirtual 93, 3), (74, .iconst 1, 1), (75, .istore 4, 2), (77, .iload 4, 2), (79, .bipush 7, 2), (81, .if_icmp .gt 18, 3), (84, .aload_n 0, 1), (85, .iload 4, 2), (87, .invokevirtual 96, 3), (90, .invokevirtual 100, 3), (93, .iinc 4 1, 3), (96, .goto (-19), 3), (99, .return_, 1)]
set_option maxRecDepth 100000 in
theorem k_Room_start : jDec m_Room_start.2.1 t_Room_start := by decide +kernel
def y_Board_clear : MethodName := ⟨"SharingRoom$Board", "clear", "()V"⟩
def m_Board_clear : jM := ("SharingRoom$Board", prog_2_method_2_code, 1, none, "clear", [])
def t_Board_clear : List (Nat × Instr × Nat) := [(0, .aload_n 0, 1), (1, .iconst 0, 1), (2, .putfield 20, 3), (5, .return_, 1)]
set_option maxRecDepth 100000 in
theorem k_Board_clear : jDec m_Board_clear.2.1 t_Board_clear := by decide +kernel
def y_Party_clear : MethodName := ⟨"SharingRoom$Party", "clear", "()V"⟩
def m_Party_clear : jM := ("SharingRoom$Party", prog_7_method_3_code, 2, none, "clear", [])
def t_Party_clear : List (Nat × Instr × Nat) := [(0, .aload_n 0, 1), (1, .invokevirtual 32, 3), (4, .iconst 0, 1), (5, .istore_n 1, 1), (6, .iload_n 1, 1), (7, .iconst 2, 1), (8, .if_icmp .ge 46, 3), (11, .aload_n 0, 1), (12, .getfield 20, 3), (15, .iload_n 1, 1), (16, .aaload, 1), (17, .iconst (-1), 1), (18, .invokestatic 35, 3), (21, .aload_n 0, 1), (22, .getfield 23, 3), (25, .iload_n 1, 1), (26, .aaload, 1), (27, .iconst (-1), 1), (28, .invokestatic 35, 3), (31, .aload_n 0, 1), (32, .getfield 26, 3), (35, .iload_n 1, 1), (36, .aaload, 1), (37, .iconst (-1), 1), (38, .invokestatic 35, 3), (41, .aload_n 0, 1), (42, .getfield 29, 3), (45, .iload_n 1, 1), (46, .iconst (-1), 1), (47, .iastore, 1), (48, .iinc 1 1, 3), (51, .goto (-45), 3), (54, .aload_n 0, 1), (55, .iconst 0, 1), (56, .putfield 41, 3), (59, .aload_n 0, 1), (60, .iconst 0, 1), (61, .putfield 45, 3), (64, .aload_n 0, 1), (65, .iconst 0, 1), (66, .putfield 49, 3), (69, .return_, 1)]
set_option maxRecDepth 100000 in
theorem k_Party_clear : jDec m_Party_clear.2.1 t_Party_clear := by decide +kernel
def y_Party_forget : MethodName := ⟨"SharingRoom$Party", "forget", "()V"⟩
def m_Party_forget : jM := ("SharingRoom$Party", prog_7_method_4_code, 1, none, "forget", [])
def t_Party_forget : List (Nat × Instr × Nat) := [(0, .aload_n 0, 1), (1, .getfield 11, 3), (4, .iconst 0, 1), (5, .aaload, 1), (6, .iconst 0, 1), (7, .invokestatic 35, 3), (10, .aload_n 0, 1), (11, .getfield 11, 3), (14, .iconst 1, 1), (15, .aaload, 1), (16, .iconst 0, 1), (17, .invokestatic 35, 3), (20, .aload_n 0, 1), (21, .getfield 16, 3), (24, .iconst 0, 1), (25, .invokestatic 35, 3), (28, .aload_n 0, 1), (29, .bipush 8, 2), (31, .putfield 52, 3), (34, .return_, 1)]
set_option maxRecDepth 100000 in
theorem k_Party_forget : jDec m_Party_forget.2.1 t_Party_forget := by decide +kernel
def y_Arrays_fill : MethodName := ⟨"java/util/Arrays", "fill", "([II)V"⟩
def m_Arrays_fill : jM := ("java/util/Arrays", prog_25_method_103_code, 4, none, "fill", [])
def t_Arrays_fill : List (Nat × Instr × Nat) := [(0, .iconst 0, 1), (1, .istore_n 2, 1), (2, .aload_n 0, 1), (3, .arraylength, 1), (4, .istore_n 3, 1), (5, .iload_n 2, 1), (6, .iload_n 3, 1), (7, .if_icmp .ge 13, 3), (10, .aload_n 0, 1), (11, .iload_n 2, 1), (12, .iload_n 1, 1), (13, .iastore, 1), (14, .iinc 2 1, 3), (17, .goto (-12), 3), (20, .return_, 1)]
set_option maxRecDepth 100000 in
theorem k_Arrays_fill : jDec m_Arrays_fill.2.1 t_Arrays_fill := by decide +kernel
def y_Law_give : MethodName := ⟨"SharingRoomLaw", "give", "(LSharingRoom;IIII)I"⟩
def m_Law_give : jM := ("SharingRoomLaw", method_7_code, 6, (some FieldType.int), "give", [(0, 9, 12, 19), (0, 9, 16, 13)])
def t_Law_give : List (Nat × Instr × Nat) := [(0, .aload_n 0, 1), (1, .iload_n 1, 1), (2, .iload_n 2, 1), (3, .iload_n 3, 1), (4, .iload 4, 2), (6, .invokevirtual 29, 3), (9, .goto 11, 3), (12, .astore 5, 2), (14, .iconst 1, 1), (15, .ireturn, 1), (16, .astore 5, 2), (18, .iconst 2, 1), (19, .ireturn, 1), (20, .iconst 0, 1), (21, .ireturn, 1)]
set_option maxRecDepth 100000 in
theorem k_Law_give : jDec m_Law_give.2.1 t_Law_give := by decide +kernel
def y_SR_give : MethodName := ⟨"SharingRoom", "give", "(IIII)V"⟩
def m_SR_give : jM := ("SharingRoom", prog_1_method_7_code, 5, none, "give", [])
def t_SR_give : List (Nat × Instr × Nat) := [(0, .aload_n 0, 1), (1, .getfield 43, 3), (4, .invokevirtual 107, 3), (7, .ifCond .ne 13, 3), (10, .new 70, 3), (13, .dup, 1), (14, .ldc 110, 2), (16, .invokespecial 74, 3), (19, .athrow, 1), (20, .aload_n 0, 1), (21, .iload_n 1, 1), (22, .invokevirtual 112, 3), (25, .aload_n 0, 1), (26, .iload_n 2, 1), (27, .invokevirtual 115, 3), (30, .iload_n 3, 1), (31, .invokestatic 118, 3), (34, .aload_n 0, 1), (35, .getfield 43, 3), (38, .iload_n 1, 1), (39, .iload_n 2, 1), (40, .iload_n 3, 1), (41, .iload 4, 2), (43, .invokevirtual 121, 3), (46, .return_, 1)]
set_option maxRecDepth 100000 in
theorem k_SR_give : jDec m_SR_give.2.1 t_SR_give := by decide +kernel
def y_Room_takesCoefficients : MethodName := ⟨"SharingRoom$Room", "takesCoefficients", "()Z"⟩
def m_Room_takesCoefficients : jM := ("SharingRoom$Room", prog_10_method_7_code, 1, (some FieldType.boolean), "takesCoefficients", [])
def t_Room_takesCoefficients : List (Nat × Instr × Nat) := [(0, .aload_n 0, 1), (1, .getfield 72, 3), (4, .ifCond .eq 22, 3), (7, .aload_n 0, 1), (8, .getfield 75, 3), (11, .ifCond .eq 11, 3), (14, .aload_n 0, 1), (15, .getfield 72, 3), (18, .iconst 1, 1), (19, .if_icmp .eq 7, 3), (22, .iconst 1, 1), (23, .goto 4, 3), (26, .iconst 0, 1), (27, .ireturn, 1)]
set_option maxRecDepth 100000 in
theorem k_Room_takesCoefficients : jDec m_Room_takesCoefficients.2.1 t_Room_takesCoefficients := by decide +kernel
def y_SR_needParty : MethodName := ⟨"SharingRoom", "needParty", "(I)V"⟩
def m_SR_needParty : jM := ("SharingRoom", prog_1_method_26_code, 2, none, "needParty", [])
def t_SR_needParty : List (Nat × Instr × Nat) := [(0, .aload_n 0, 1), (1, .getfield 43, 3), (4, .iload_n 1, 1), (5, .invokevirtual 228, 3), (8, .ifCond .ne 13, 3), (11, .new 47, 3), (14, .dup, 1), (15, .ldc 231, 2), (17, .invokespecial 51, 3), (20, .athrow, 1), (21, .return_, 1)]
set_option maxRecDepth 100000 in
theorem k_SR_needParty : jDec m_SR_needParty.2.1 t_SR_needParty := by decide +kernel
def y_Room_hasParty : MethodName := ⟨"SharingRoom$Room", "hasParty", "(I)Z"⟩
def m_Room_hasParty : jM := ("SharingRoom$Room", prog_10_method_4_code, 2, (some FieldType.boolean), "hasParty", [])
def t_Room_hasParty : List (Nat × Instr × Nat) := [(0, .iload_n 1, 1), (1, .iconst 1, 1), (2, .if_icmp .lt 15, 3), (5, .iload_n 1, 1), (6, .aload_n 0, 1), (7, .getfield 55, 3), (10, .if_icmp .gt 7, 3), (13, .iconst 1, 1), (14, .goto 4, 3), (17, .iconst 0, 1), (18, .ireturn, 1)]
set_option maxRecDepth 100000 in
theorem k_Room_hasParty : jDec m_Room_hasParty.2.1 t_Room_hasParty := by decide +kernel
def y_SR_needCoefficient : MethodName := ⟨"SharingRoom", "needCoefficient", "(I)V"⟩
def m_SR_needCoefficient : jM := ("SharingRoom", prog_1_method_27_code, 2, none, "needCoefficient", [])
def t_SR_needCoefficient : List (Nat × Instr × Nat) := [(0, .aload_n 0, 1), (1, .getfield 43, 3), (4, .iload_n 1, 1), (5, .invokevirtual 233, 3), (8, .ifCond .ne 13, 3), (11, .new 47, 3), (14, .dup, 1), (15, .ldc 236, 2), (17, .invokespecial 51, 3), (20, .athrow, 1), (21, .return_, 1)]
set_option maxRecDepth 100000 in
theorem k_SR_needCoefficient : jDec m_SR_needCoefficient.2.1 t_SR_needCoefficient := by decide +kernel
def y_Room_hasCoefficient : MethodName := ⟨"SharingRoom$Room", "hasCoefficient", "(I)Z"⟩
def m_Room_hasCoefficient : jM := ("SharingRoom$Room", prog_10_method_5_code, 2, (some FieldType.boolean), "hasCoefficient", [])
def t_Room_hasCoefficient : List (Nat × Instr × Nat) := [(0, .iload_n 1, 1), (1, .ifCond .lt 15, 3), (4, .iload_n 1, 1), (5, .aload_n 0, 1), (6, .getfield 59, 3), (9, .if_icmp .ge 7, 3), (12, .iconst 1, 1), (13, .goto 4, 3), (16, .iconst 0, 1), (17, .ireturn, 1)]
set_option maxRecDepth 100000 in
theorem k_Room_hasCoefficient : jDec m_Room_hasCoefficient.2.1 t_Room_hasCoefficient := by decide +kernel
def y_SR_needWhich : MethodName := ⟨"SharingRoom", "needWhich", "(I)V"⟩
def m_SR_needWhich : jM := ("SharingRoom", prog_1_method_28_code, 1, none, "needWhich", [])
def t_SR_needWhich : List (Nat × Instr × Nat) := [(0, .iload_n 0, 1), (1, .ifCond .eq 18, 3), (4, .iload_n 0, 1), (5, .iconst 1, 1), (6, .if_icmp .eq 13, 3), (9, .new 47, 3), (12, .dup, 1), (13, .ldc 238, 2), (15, .invokespecial 51, 3), (18, .athrow, 1), (19, .return_, 1)]
set_option maxRecDepth 100000 in
theorem k_SR_needWhich : jDec m_SR_needWhich.2.1 t_SR_needWhich := by decide +kernel
def y_Room_setCoefficient : MethodName := ⟨"SharingRoom$Room", "setCoefficient", "(IIII)V"⟩
def m_Room_setCoefficient : jM := ("SharingRoom$Room", prog_10_method_10_code, 5, none, "setCoefficient", [])
def t_Room_setCoefficient : List (Nat × Instr × Nat) := [(0, .aload_n 0, 1), (1, .iload_n 1, 1), (2, .invokevirtual 96, 3), (5, .getfield 101, 3), (8, .iload_n 3, 1), (9, .aaload, 1), (10, .iload_n 2, 1), (11, .iload 4, 2), (13, .aload_n 0, 1), (14, .getfield 42, 3), (17, .getfield 105, 3), (20, .invokestatic 110, 3), (23, .iastore, 1), (24, .return_, 1)]
set_option maxRecDepth 100000 in
theorem k_Room_setCoefficient : jDec m_Room_setCoefficient.2.1 t_Room_setCoefficient := by decide +kernel
def y_Math_floorMod : MethodName := ⟨"java/lang/Math", "floorMod", "(II)I"⟩
def m_Math_floorMod : jM := ("java/lang/Math", prog_20_method_50_code, 3, (some FieldType.int), "floorMod", [])
def t_Math_floorMod : List (Nat × Instr × Nat) := [(0, .iload_n 0, 1), (1, .iload_n 1, 1), (2, .irem, 1), (3, .istore_n 2, 1), (4, .iload_n 0, 1), (5, .iload_n 1, 1), (6, .ixor, 1), (7, .ifCond .ge 11, 3), (10, .iload_n 2, 1), (11, .ifCond .eq 7, 3), (14, .iload_n 2, 1), (15, .iload_n 1, 1), (16, .iadd, 1), (17, .ireturn, 1), (18, .iload_n 2, 1), (19, .ireturn, 1)]
set_option maxRecDepth 100000 in
theorem k_Math_floorMod : jDec m_Math_floorMod.2.1 t_Math_floorMod := by decide +kernel
def y_Law_fault : MethodName := ⟨"SharingRoomLaw", "fault", "(LSharingRoom;III)I"⟩
def m_Law_fault : jM := ("SharingRoomLaw", method_8_code, 5, (some FieldType.int), "fault", [(0, 7, 10, 19), (0, 7, 14, 13)])
def t_Law_fault : List (Nat × Instr × Nat) := [(0, .aload_n 0, 1), (1, .iload_n 1, 1), (2, .iload_n 2, 1), (3, .iload_n 3, 1), (4, .invokevirtual 33, 3), (7, .goto 11, 3), (10, .astore 4, 2), (12, .iconst 1, 1), (13, .ireturn, 1), (14, .astore 4, 2), (16, .iconst 2, 1), (17, .ireturn, 1), (18, .iconst 0, 1), (19, .ireturn, 1)]
set_option maxRecDepth 100000 in
theorem k_Law_fault : jDec m_Law_fault.2.1 t_Law_fault := by decide +kernel
def y_SR_fault : MethodName := ⟨"SharingRoom", "fault", "(III)V"⟩
def m_SR_fault : jM := ("SharingRoom", prog_1_method_8_code, 4, none, "fault", [])
def t_SR_fault : List (Nat × Instr × Nat) := [(0, .aload_n 0, 1), (1, .invokevirtual 125, 3), (4, .aload_n 0, 1), (5, .iload_n 1, 1), (6, .invokevirtual 112, 3), (9, .iload_n 2, 1), (10, .ifCond .lt 9, 3), (13, .iload_n 2, 1), (14, .bipush 7, 2), (16, .if_icmp .lt 13, 3), (19, .new 47, 3), (22, .dup, 1), (23, .ldc 130, 2), (25, .invokespecial 51, 3), (28, .athrow, 1), (29, .iload_n 2, 1), (30, .invokestatic 132, 3), (33, .ifCond .ne 14, 3), (36, .aload_n 0, 1), (37, .getfield 43, 3), (40, .iload_n 1, 1), (41, .iload_n 2, 1), (42, .iload_n 1, 1), (43, .invokevirtual 135, 3), (46, .return_, 1), (47, .aload_n 0, 1), (48, .iload_n 3, 1), (49, .invokevirtual 112, 3), (52, .iload_n 1, 1), (53, .iload_n 3, 1), (54, .if_icmp .ne 13, 3), (57, .new 47, 3), (60, .dup, 1), (61, .ldc 138, 2), (63, .invokespecial 51, 3), (66, .athrow, 1), (67, .aload_n 0, 1), (68, .getfield 43, 3), (71, .iload_n 1, 1), (72, .iload_n 2, 1), (73, .iload_n 3, 1), (74, .invokevirtual 135, 3), (77, .return_, 1)]
set_option maxRecDepth 100000 in
theorem k_SR_fault : jDec m_SR_fault.2.1 t_SR_fault := by decide +kernel
def y_SR_needBeforeRounds : MethodName := ⟨"SharingRoom", "needBeforeRounds", "()V"⟩
def m_SR_needBeforeRounds : jM := ("SharingRoom", prog_1_method_24_code, 1, none, "needBeforeRounds", [])
def t_SR_needBeforeRounds : List (Nat × Instr × Nat) := [(0, .aload_n 0, 1), (1, .getfield 43, 3), (4, .invokevirtual 221, 3), (7, .ifCond .ne 13, 3), (10, .new 70, 3), (13, .dup, 1), (14, .ldc 224, 2), (16, .invokespecial 74, 3), (19, .athrow, 1), (20, .return_, 1)]
set_option maxRecDepth 100000 in
theorem k_SR_needBeforeRounds : jDec m_SR_needBeforeRounds.2.1 t_SR_needBeforeRounds := by decide +kernel
def y_Room_isBeforeRounds : MethodName := ⟨"SharingRoom$Room", "isBeforeRounds", "()Z"⟩
def m_Room_isBeforeRounds : jM := ("SharingRoom$Room", prog_10_method_8_code, 1, (some FieldType.boolean), "isBeforeRounds", [])
def t_Room_isBeforeRounds : List (Nat × Instr × Nat) := [(0, .aload_n 0, 1), (1, .getfield 72, 3), (4, .ifCond .eq 14, 3), (7, .aload_n 0, 1), (8, .getfield 75, 3), (11, .ifCond .ne 7, 3), (14, .iconst 1, 1), (15, .goto 4, 3), (18, .iconst 0, 1), (19, .ireturn, 1)]
set_option maxRecDepth 100000 in
theorem k_Room_isBeforeRounds : jDec m_Room_isBeforeRounds.2.1 t_Room_isBeforeRounds := by decide +kernel
def y_Party_concernsAnother : MethodName := ⟨"SharingRoom$Party", "concernsAnother", "(I)Z"⟩
def m_Party_concernsAnother : jM := ("SharingRoom$Party", prog_7_method_2_code, 1, (some FieldType.boolean), "concernsAnother", [])
def t_Party_concernsAnother : List (Nat × Instr × Nat) := [(0, .iload_n 0, 1), (1, .iconst 1, 1), (2, .if_icmp .eq 8, 3), (5, .iload_n 0, 1), (6, .iconst 2, 1), (7, .if_icmp .ne 7, 3), (10, .iconst 1, 1), (11, .goto 4, 3), (14, .iconst 0, 1), (15, .ireturn, 1)]
set_option maxRecDepth 100000 in
theorem k_Party_concernsAnother : jDec m_Party_concernsAnother.2.1 t_Party_concernsAnother := by decide +kernel
def y_Room_setFault : MethodName := ⟨"SharingRoom$Room", "setFault", "(III)V"⟩
def m_Room_setFault : jM := ("SharingRoom$Room", prog_10_method_11_code, 4, none, "setFault", [])
def t_Room_setFault : List (Nat × Instr × Nat) := [(0, .aload_n 0, 1), (1, .iload_n 1, 1), (2, .invokevirtual 96, 3), (5, .getfield 116, 3), (8, .iload_n 2, 1), (9, .iload_n 3, 1), (10, .iastore, 1), (11, .return_, 1)]
set_option maxRecDepth 100000 in
theorem k_Room_setFault : jDec m_Room_setFault.2.1 t_Room_setFault := by decide +kernel
def y_Law_crash : MethodName := ⟨"SharingRoomLaw", "crash", "(LSharingRoom;II)I"⟩
def m_Law_crash : jM := ("SharingRoomLaw", method_9_code, 4, (some FieldType.int), "crash", [(0, 6, 9, 19), (0, 6, 12, 13)])
def t_Law_crash : List (Nat × Instr × Nat) := [(0, .aload_n 0, 1), (1, .iload_n 1, 1), (2, .iload_n 2, 1), (3, .invokevirtual 36, 3), (6, .goto 9, 3), (9, .astore_n 3, 1), (10, .iconst 1, 1), (11, .ireturn, 1), (12, .astore_n 3, 1), (13, .iconst 2, 1), (14, .ireturn, 1), (15, .iconst 0, 1), (16, .ireturn, 1)]
set_option maxRecDepth 100000 in
theorem k_Law_crash : jDec m_Law_crash.2.1 t_Law_crash := by decide +kernel
def y_SR_crash : MethodName := ⟨"SharingRoom", "crash", "(II)V"⟩
def m_SR_crash : jM := ("SharingRoom", prog_1_method_9_code, 3, none, "crash", [])
def t_SR_crash : List (Nat × Instr × Nat) := [(0, .aload_n 0, 1), (1, .invokevirtual 125, 3), (4, .aload_n 0, 1), (5, .iload_n 1, 1), (6, .invokevirtual 112, 3), (9, .iload_n 2, 1), (10, .iconst 1, 1), (11, .if_icmp .lt 9, 3), (14, .iload_n 2, 1), (15, .bipush 8, 2), (17, .if_icmp .le 13, 3), (20, .new 47, 3), (23, .dup, 1), (24, .ldc 140, 2), (26, .invokespecial 51, 3), (29, .athrow, 1), (30, .aload_n 0, 1), (31, .getfield 43, 3), (34, .iload_n 1, 1), (35, .iload_n 2, 1), (36, .invokevirtual 142, 3), (39, .return_, 1)]
set_option maxRecDepth 100000 in
theorem k_SR_crash : jDec m_SR_crash.2.1 t_SR_crash := by decide +kernel
def y_Room_setCrash : MethodName := ⟨"SharingRoom$Room", "setCrash", "(II)V"⟩
def m_Room_setCrash : jM := ("SharingRoom$Room", prog_10_method_12_code, 3, none, "setCrash", [])
def t_Room_setCrash : List (Nat × Instr × Nat) := [(0, .aload_n 0, 1), (1, .iload_n 1, 1), (2, .invokevirtual 96, 3), (5, .iload_n 2, 1), (6, .putfield 119, 3), (9, .return_, 1)]
set_option maxRecDepth 100000 in
theorem k_Room_setCrash : jDec m_Room_setCrash.2.1 t_Room_setCrash := by decide +kernel
def y_Law_next : MethodName := ⟨"SharingRoomLaw", "next", "(LSharingRoom;[J)I"⟩
def m_Law_next : jM := ("SharingRoomLaw", method_10_code, 3, (some FieldType.int), "next", [(0, 8, 11, 19)])
def t_Law_next : List (Nat × Instr × Nat) := [(0, .aload_n 1, 1), (1, .iconst 0, 1), (2, .aload_n 0, 1), (3, .invokevirtual 40, 3), (6, .i2l, 1), (7, .lastore, 1), (8, .goto 6, 3), (11, .astore_n 2, 1), (12, .iconst 1, 1), (13, .ireturn, 1), (14, .iconst 0, 1), (15, .ireturn, 1)]
set_option maxRecDepth 100000 in
theorem k_Law_next : jDec m_Law_next.2.1 t_Law_next := by decide +kernel
def y_SR_next : MethodName := ⟨"SharingRoom", "next", "()I"⟩
def m_SR_next : jM := ("SharingRoom", prog_1_method_10_code, 1, (some FieldType.int), "next", [])
def t_SR_next : List (Nat × Instr × Nat) := [(0, .aload_n 0, 1), (1, .getfield 43, 3), (4, .invokevirtual 145, 3), (7, .iconst 1, 1), (8, .if_icmp .eq 13, 3), (11, .new 70, 3), (14, .dup, 1), (15, .ldc 148, 2), (17, .invokespecial 74, 3), (20, .athrow, 1), (21, .aload_n 0, 1), (22, .getfield 43, 3), (25, .invokevirtual 150, 3), (28, .ireturn, 1)]
set_option maxRecDepth 100000 in
theorem k_SR_next : jDec m_SR_next.2.1 t_SR_next := by decide +kernel
def y_Room_advance : MethodName := ⟨"SharingRoom$Room", "advance", "()I"⟩
def m_Room_advance : jM := ("SharingRoom$Room", prog_10_method_24_code, 1, (some FieldType.int), "advance", [])
def t_Room_advance : List (Nat × Instr × Nat) := [(0, .aload_n 0, 1), (1, .dup, 1), (2, .getfield 75, 3), (5, .iconst 1, 1), (6, .iadd, 1), (7, .putfield 75, 3), (10, .aload_n 0, 1), (11, .getfield 75, 3), (14, .tableswitch 80 1 6 #[38, 45, 52, 59, 66, 73], 38), (52, .aload_n 0, 1), (53, .invokevirtual 144, 3), (56, .goto 42, 3), (59, .aload_n 0, 1), (60, .invokevirtual 147, 3), (63, .goto 35, 3), (66, .aload_n 0, 1), (67, .invokevirtual 150, 3), (70, .goto 28, 3), (73, .aload_n 0, 1), (74, .invokevirtual 153, 3), (77, .goto 21, 3), (80, .aload_n 0, 1), (81, .invokevirtual 156, 3), (84, .goto 14, 3), (87, .aload_n 0, 1), (88, .invokevirtual 159, 3), (91, .goto 7, 3), (94, .aload_n 0, 1), (95, .invokevirtual 162, 3), (98, .aload_n 0, 1), (99, .getfield 75, 3), (102, .ireturn, 1)]
set_option maxRecDepth 100000 in
theorem k_Room_advance : jDec m_Room_advance.2.1 t_Room_advance := by decide +kernel
def y_Room_dealAll : MethodName := ⟨"SharingRoom$Room", "dealAll", "()V"⟩
def m_Room_dealAll : jM := ("SharingRoom$Room", prog_10_method_25_code, 2, none, "dealAll", [])
def t_Room_dealAll : List (Nat × Instr × Nat) := [(0, .iconst 1, 1), (1, .istore_n 1, 1), (2, .iload_n 1, 1), (3, .aload_n 0, 1), (4, .getfield 55, 3), (7, .if_icmp .gt 38, 3), (10, .aload_n 0, 1), (11, .iload_n 1, 1), (12, .invokevirtual 96, 3), (15, .iconst 1, 1), (16, .invokevirtual 122, 3), (19, .ifCond .eq 20, 3), (22, .aload_n 0, 1), (23, .iload_n 1, 1), (24, .invokevirtual 96, 3), (27, .iconst 0, 1), (28, .invokevirtual 165, 3), (31, .ifCond .ne 8, 3), (34, .aload_n 0, 1), (35, .iload_n 1, 1), (36, .invokevirtual 168, 3), (39, .iinc 1 1, 3), (42, .goto (-40), 3), (45, .return_, 1)]
set_option maxRecDepth 100000 in
theorem k_Room_dealAll : jDec m_Room_dealAll.2.1 t_Room_dealAll := by decide +kernel
def y_Party_has : MethodName := ⟨"SharingRoom$Party", "has", "(I)Z"⟩
def m_Party_has : jM := ("SharingRoom$Party", prog_7_method_7_code, 2, (some FieldType.boolean), "has", [])
def t_Party_has : List (Nat × Instr × Nat) := [(0, .aload_n 0, 1), (1, .getfield 16, 3), (4, .iload_n 1, 1), (5, .iaload, 1), (6, .ifCond .eq 7, 3), (9, .iconst 1, 1), (10, .goto 4, 3), (13, .iconst 0, 1), (14, .ireturn, 1)]
set_option maxRecDepth 100000 in
theorem k_Party_has : jDec m_Party_has.2.1 t_Party_has := by decide +kernel
def y_Room_deal : MethodName := ⟨"SharingRoom$Room", "deal", "(I)V"⟩
def m_Room_deal : jM := ("SharingRoom$Room", prog_10_method_26_code, 6, none, "deal", [])
def t_Room_deal : List (Nat × Instr × Nat) := [(0, .aload_n 0, 1), (1, .iload_n 1, 1), (2, .invokevirtual 96, 3), (5, .astore_n 2, 1), (6, .aload_n 2, 1), (7, .iconst 1, 1), (8, .putfield 172, 3), (11, .aload_n 0, 1), (12, .getfield 20, 3), (15, .iconst 1, 1), (16, .iload_n 1, 1), (17, .invokevirtual 176, 3), (20, .iconst 0, 1), (21, .istore_n 3, 1), (22, .iload_n 3, 1), (23, .aload_n 0, 1), (24, .getfield 59, 3), (27, .if_icmp .ge 53, 3), (30, .aload_n 0, 1), (31, .getfield 34, 3), (34, .aload_n 2, 1), (35, .getfield 101, 3), (38, .iconst 0, 1), (39, .aaload, 1), (40, .iload_n 3, 1), (41, .iaload, 1), (42, .aload_n 2, 1), (43, .getfield 101, 3), (46, .iconst 1, 1), (47, .aaload, 1), (48, .iload_n 3, 1), (49, .iaload, 1), (50, .invokevirtual 180, 3), (53, .istore 4, 2), (55, .aload_n 2, 1), (56, .getfield 138, 3), (59, .iconst 0, 1), (60, .aaload, 1), (61, .iload_n 3, 1), (62, .iload 4, 2), (64, .iastore, 1), (65, .aload_n 0, 1), (66, .getfield 20, 3), (69, .iload 4, 2), (71, .invokevirtual 183, 3), (74, .iinc 3 1, 3), (77, .goto (-55), 3), (80, .iconst 1, 1), (81, .istore_n 3, 1), (82, .iload_n 3, 1), (83, .aload_n 0, 1), (84, .getfield 55, 3), (87, .if_icmp .gt 86, 3), (90, .aload_n 0, 1), (91, .iload_n 1, 1), (92, .iload_n 3, 1), (93, .iconst 0, 1), (94, .invokevirtual 186, 3), (97, .istore 4, 2), (99, .aload_n 2, 1), (100, .getfield 116, 3), (103, .iconst 1, 1), (104, .iaload, 1), (105, .iload_n 3, 1), (106, .if_icmp .ne 7, 3), (109, .iconst 1, 1), (110, .goto 4, 3), (113, .iconst 0, 1), (114, .istore 5, 2), (116, .aload_n 0, 1), (117, .iload_n 3, 1), (118, .invokevirtual 96, 3), (121, .getfield 136, 3), (124, .iconst 0, 1), (125, .aaload, 1), (126, .iload_n 1, 1), (127, .iload 5, 2), (129, .ifCond .eq 16, 3), (132, .aload_n 0, 1), (133, .getfield 42, 3), (136, .iload 4, 2), (138, .iconst 1, 1), (139, .invokevirtual 190, 3), (142, .goto 5, 3), (145, .iload 4, 2), (147, .iastore, 1), (148, .aload_n 0, 1), (149, .iload_n 3, 1), (150, .invokevirtual 96, 3), (153, .getfield 136, 3), (156, .iconst 1, 1), (157, .aaload, 1), (158, .iload_n 1, 1), (159, .aload_n 0, 1), (160, .iload_n 1, 1), (161, .iload_n 3, 1), (162, .iconst 1, 1), (163, .invokevirtual 186, 3), (166, .iastore, 1), (167, .iinc 3 1, 3), (170, .goto (-88), 3), (173, .return_, 1)]
set_option maxRecDepth 100000 in
theorem k_Room_deal : jDec m_Room_deal.2.1 t_Room_deal := by decide +kernel
def y_Board_write : MethodName := ⟨"SharingRoom$Board", "write", "(II)V"⟩
def m_Board_write : jM := ("SharingRoom$Board", prog_2_method_5_code, 3, none, "write", [])
def t_Board_write : List (Nat × Instr × Nat) := [(0, .aload_n 0, 1), (1, .iload_n 1, 1), (2, .invokevirtual 24, 3), (5, .aload_n 0, 1), (6, .iload_n 2, 1), (7, .invokevirtual 24, 3), (10, .return_, 1)]
set_option maxRecDepth 100000 in
theorem k_Board_write : jDec m_Board_write.2.1 t_Board_write := by decide +kernel
def y_Board_writeByte : MethodName := ⟨"SharingRoom$Board", "writeByte", "(I)V"⟩
def m_Board_writeByte : jM := ("SharingRoom$Board", prog_2_method_7_code, 2, none, "writeByte", [])
def t_Board_writeByte : List (Nat × Instr × Nat) := [(0, .aload_n 0, 1), (1, .getfield 20, 3), (4, .sipush 1050, 3), (7, .if_icmp .ge 24, 3), (10, .aload_n 0, 1), (11, .getfield 9, 3), (14, .aload_n 0, 1), (15, .getfield 20, 3), (18, .iload_n 1, 1), (19, .i2b, 1), (20, .bastore, 1), (21, .aload_n 0, 1), (22, .dup, 1), (23, .getfield 20, 3), (26, .iconst 1, 1), (27, .iadd, 1), (28, .putfield 20, 3), (31, .return_, 1)]
set_option maxRecDepth 100000 in
theorem k_Board_writeByte : jDec m_Board_writeByte.2.1 t_Board_writeByte := by decide +kernel
def y_Group_commit : MethodName := ⟨"SharingRoom$Group", "commit", "(II)I"⟩
def m_Group_commit : jM := ("SharingRoom$Group", prog_6_method_4_code, 3, (some FieldType.int), "commit", [])
def t_Group_commit : List (Nat × Instr × Nat) := [(0, .aload_n 0, 1), (1, .aload_n 0, 1), (2, .aload_n 0, 1), (3, .getfield 17, 3), (6, .iload_n 1, 1), (7, .invokevirtual 27, 3), (10, .aload_n 0, 1), (11, .aload_n 0, 1), (12, .getfield 20, 3), (15, .iload_n 2, 1), (16, .invokevirtual 27, 3), (19, .invokevirtual 23, 3), (22, .ireturn, 1)]
set_option maxRecDepth 100000 in
theorem k_Group_commit : jDec m_Group_commit.2.1 t_Group_commit := by decide +kernel
def y_Group_power : MethodName := ⟨"SharingRoom$Group", "power", "(II)I"⟩
def m_Group_power : jM := ("SharingRoom$Group", prog_6_method_3_code, 6, (some FieldType.int), "power", [])
def t_Group_power : List (Nat × Instr × Nat) := [(0, .aload_n 0, 1), (1, .getfield 13, 3), (4, .istore_n 3, 1), (5, .iload_n 1, 1), (6, .istore 4, 2), (8, .iload_n 2, 1), (9, .istore 5, 2), (11, .iload 5, 2), (13, .ifCond .le 38, 3), (16, .iload 5, 2), (18, .iconst 1, 1), (19, .iand, 1), (20, .iconst 1, 1), (21, .if_icmp .ne 11, 3), (24, .aload_n 0, 1), (25, .iload_n 3, 1), (26, .iload 4, 2), (28, .invokevirtual 23, 3), (31, .istore_n 3, 1), (32, .aload_n 0, 1), (33, .iload 4, 2), (35, .iload 4, 2), (37, .invokevirtual 23, 3), (40, .istore 4, 2), (42, .iload 5, 2), (44, .iconst 1, 1), (45, .ishr, 1), (46, .istore 5, 2), (48, .goto (-37), 3), (51, .iload_n 3, 1), (52, .ireturn, 1)]
set_option maxRecDepth 100000 in
theorem k_Group_power : jDec m_Group_power.2.1 t_Group_power := by decide +kernel
def y_Curve_product : MethodName := ⟨"SharingRoom$CurveGroup", "product", "(II)I"⟩
def m_Curve_product : jM := ("SharingRoom$CurveGroup", prog_4_method_2_code, 12, (some FieldType.int), "product", [])
def t_Curve_product : List (Nat × Instr × Nat) := [(0, .iload_n 1, 1), (1, .aload_n 0, 1), (2, .getfield 13, 3), (5, .if_icmp .ne 5, 3), (8, .iload_n 2, 1), (9, .ireturn, 1), (10, .iload_n 2, 1), (11, .aload_n 0, 1), (12, .getfield 13, 3), (15, .if_icmp .ne 5, 3), (18, .iload_n 1, 1), (19, .ireturn, 1), (20, .iload_n 1, 1), (21, .bipush 6, 2), (23, .ishr, 1), (24, .istore_n 3, 1), (25, .iload_n 1, 1), (26, .bipush 63, 2), (28, .iand, 1), (29, .istore 4, 2), (31, .iload_n 2, 1), (32, .bipush 6, 2), (34, .ishr, 1), (35, .istore 5, 2), (37, .iload_n 2, 1), (38, .bipush 63, 2), (40, .iand, 1), (41, .istore 6, 2), (43, .iload_n 3, 1), (44, .iload 5, 2), (46, .if_icmp .ne 18, 3), (49, .iload 4, 2), (51, .iload 6, 2), (53, .iadd, 1), (54, .bipush 43, 2), (56, .if_icmp .ne 8, 3), (59, .aload_n 0, 1), (60, .getfield 13, 3), (63, .ireturn, 1), (64, .iload_n 3, 1), (65, .iload 5, 2), (67, .if_icmp .ne 11, 3), (70, .iconst 3, 1), (71, .iload_n 3, 1), (72, .imul, 1), (73, .iload_n 3, 1), (74, .imul, 1), (75, .goto 11, 3), (78, .iload 6, 2), (80, .iload 4, 2), (82, .isub, 1), (83, .bipush 43, 2), (85, .iadd, 1), (86, .istore 7, 2), (88, .iload_n 3, 1), (89, .iload 5, 2), (91, .if_icmp .ne 10, 3), (94, .iconst 2, 1), (95, .iload 4, 2), (97, .imul, 1), (98, .goto 10, 3), (101, .iload 5, 2), (103, .iload_n 3, 1), (104, .isub, 1), (105, .bipush 43, 2), (107, .iadd, 1), (108, .bipush 43, 2), (110, .irem, 1), (111, .istore 8, 2), (113, .iload 7, 2), (115, .aload_n 0, 1), (116, .getfield 9, 3), (119, .iload 8, 2), (121, .iaload, 1), (122, .imul, 1), (123, .bipush 43, 2), (125, .irem, 1), (126, .istore 9, 2), (128, .iload 9, 2), (130, .iload 9, 2), (132, .imul, 1), (133, .bipush 86, 2), (135, .iadd, 1), (136, .iload_n 3, 1), (137, .isub, 1), (138, .iload 5, 2), (140, .isub, 1), (141, .bipush 43, 2), (143, .irem, 1), (144, .istore 10, 2), (146, .iload 9, 2), (148, .iload_n 3, 1), (149, .iload 10, 2), (151, .isub, 1), (152, .bipush 43, 2), (154, .iadd, 1), (155, .imul, 1), (156, .bipush 43, 2), (158, .iadd, 1), (159, .iload 4, 2), (161, .isub, 1), (162, .bipush 43, 2), (164, .irem, 1), (165, .istore 11, 2), (167, .iload 10, 2), (169, .bipush 6, 2), (171, .ishl, 1), (172, .iload 11, 2), (174, .ior, 1), (175, .ireturn, 1)]
set_option maxRecDepth 100000 in
theorem k_Curve_product : jDec m_Curve_product.2.1 t_Curve_product := by decide +kernel
def y_Square_product : MethodName := ⟨"SharingRoom$SquareGroup", "product", "(II)I"⟩
def m_Square_product : jM := ("SharingRoom$SquareGroup", prog_12_method_2_code, 3, (some FieldType.int), "product", [])
def t_Square_product : List (Nat × Instr × Nat) := [(0, .iload_n 1, 1), (1, .iload_n 2, 1), (2, .imul, 1), (3, .sipush 2039, 3), (6, .irem, 1), (7, .ireturn, 1)]
set_option maxRecDepth 100000 in
theorem k_Square_product : jDec m_Square_product.2.1 t_Square_product := by decide +kernel
def y_Board_writePair : MethodName := ⟨"SharingRoom$Board", "writePair", "(I)V"⟩
def m_Board_writePair : jM := ("SharingRoom$Board", prog_2_method_6_code, 2, none, "writePair", [])
def t_Board_writePair : List (Nat × Instr × Nat) := [(0, .aload_n 0, 1), (1, .iload_n 1, 1), (2, .bipush 8, 2), (4, .ishr, 1), (5, .invokevirtual 24, 3), (8, .aload_n 0, 1), (9, .iload_n 1, 1), (10, .invokevirtual 24, 3), (13, .return_, 1)]
set_option maxRecDepth 100000 in
theorem k_Board_writePair : jDec m_Board_writePair.2.1 t_Board_writePair := by decide +kernel
def y_Room_dealtNumber : MethodName := ⟨"SharingRoom$Room", "dealtNumber", "(III)I"⟩
def m_Room_dealtNumber : jM := ("SharingRoom$Room", prog_10_method_48_code, 5, (some FieldType.int), "dealtNumber", [])
def t_Room_dealtNumber : List (Nat × Instr × Nat) := [(0, .aload_n 0, 1), (1, .iload_n 1, 1), (2, .invokevirtual 96, 3), (5, .getfield 101, 3), (8, .iload_n 3, 1), (9, .aaload, 1), (10, .astore 4, 2), (12, .aload_n 0, 1), (13, .getfield 42, 3), (16, .aload 4, 2), (18, .iconst 0, 1), (19, .iaload, 1), (20, .aload 4, 2), (22, .aload_n 0, 1), (23, .getfield 59, 3), (26, .iload_n 2, 1), (27, .invokevirtual 292, 3), (30, .ireturn, 1)]
set_option maxRecDepth 100000 in
theorem k_Room_dealtNumber : jDec m_Room_dealtNumber.2.1 t_Room_dealtNumber := by decide +kernel
def y_Field_polynomialAt : MethodName := ⟨"SharingRoom$Field", "polynomialAt", "(I[III)I"⟩
def m_Field_polynomialAt : jM := ("SharingRoom$Field", prog_5_method_7_code, 7, (some FieldType.int), "polynomialAt", [])
def t_Field_polynomialAt : List (Nat × Instr × Nat) := [(0, .iconst 0, 1), (1, .istore 5, 2), (3, .iload_n 3, 1), (4, .iconst 1, 1), (5, .isub, 1), (6, .istore 6, 2), (8, .iload 6, 2), (10, .ifCond .le 27, 3), (13, .aload_n 0, 1), (14, .aload_n 0, 1), (15, .iload 5, 2), (17, .aload_n 2, 1), (18, .iload 6, 2), (20, .iaload, 1), (21, .invokevirtual 17, 3), (24, .iload 4, 2), (26, .invokevirtual 13, 3), (29, .istore 5, 2), (31, .iinc 6 (-1), 3), (34, .goto (-26), 3), (37, .aload_n 0, 1), (38, .iload 5, 2), (40, .iload_n 1, 1), (41, .invokevirtual 17, 3), (44, .ireturn, 1)]
set_option maxRecDepth 100000 in
theorem k_Field_polynomialAt : jDec m_Field_polynomialAt.2.1 t_Field_polynomialAt := by decide +kernel
def y_Room_complainAll : MethodName := ⟨"SharingRoom$Room", "complainAll", "()V"⟩
def m_Room_complainAll : jM := ("SharingRoom$Room", prog_10_method_27_code, 2, none, "complainAll", [])
def t_Room_complainAll : List (Nat × Instr × Nat) := [(0, .iconst 1, 1), (1, .istore_n 1, 1), (2, .iload_n 1, 1), (3, .aload_n 0, 1), (4, .getfield 55, 3), (7, .if_icmp .gt 26, 3), (10, .aload_n 0, 1), (11, .iload_n 1, 1), (12, .invokevirtual 96, 3), (15, .iconst 2, 1), (16, .invokevirtual 122, 3), (19, .ifCond .eq 8, 3), (22, .aload_n 0, 1), (23, .iload_n 1, 1), (24, .invokevirtual 193, 3), (27, .iinc 1 1, 3), (30, .goto (-28), 3), (33, .return_, 1)]
set_option maxRecDepth 100000 in
theorem k_Room_complainAll : jDec m_Room_complainAll.2.1 t_Room_complainAll := by decide +kernel
def y_Room_complain : MethodName := ⟨"SharingRoom$Room", "complain", "(I)V"⟩
def m_Room_complain : jM := ("SharingRoom$Room", prog_10_method_28_code, 5, none, "complain", [])
def t_Room_complain : List (Nat × Instr × Nat) := [(0, .aload_n 0, 1), (1, .iload_n 1, 1), (2, .invokevirtual 96, 3), (5, .astore_n 2, 1), (6, .iconst 1, 1), (7, .istore_n 3, 1), (8, .iload_n 3, 1), (9, .aload_n 0, 1), (10, .getfield 55, 3), (13, .if_icmp .gt 104, 3), (16, .aload_n 0, 1), (17, .iload_n 3, 1), (18, .invokevirtual 96, 3), (21, .getfield 172, 3), (24, .ifCond .ne 6, 3), (27, .goto 84, 3), (30, .aload_n 2, 1), (31, .getfield 116, 3), (34, .iconst 2, 1), (35, .iaload, 1), (36, .iload_n 3, 1), (37, .if_icmp .ne 7, 3), (40, .iconst 1, 1), (41, .goto 4, 3), (44, .iconst 0, 1), (45, .istore 4, 2), (47, .iload 4, 2), (49, .ifCond .ne 28, 3), (52, .aload_n 0, 1), (53, .iload_n 3, 1), (54, .iload_n 1, 1), (55, .aload_n 2, 1), (56, .getfield 136, 3), (59, .iconst 0, 1), (60, .aaload, 1), (61, .iload_n 3, 1), (62, .iaload, 1), (63, .aload_n 2, 1), (64, .getfield 136, 3), (67, .iconst 1, 1), (68, .aaload, 1), (69, .iload_n 3, 1), (70, .iaload, 1), (71, .invokevirtual 196, 3), (74, .ifCond .ne 37, 3), (77, .aload_n 0, 1), (78, .iload_n 3, 1), (79, .invokevirtual 96, 3), (82, .dup, 1), (83, .getfield 133, 3), (86, .iload_n 1, 1), (87, .invokestatic 130, 3), (90, .ior, 1), (91, .putfield 133, 3), (94, .aload_n 0, 1), (95, .getfield 20, 3), (98, .iconst 2, 1), (99, .iload_n 1, 1), (100, .invokevirtual 176, 3), (103, .aload_n 0, 1), (104, .getfield 20, 3), (107, .iload_n 3, 1), (108, .invokevirtual 200, 3), (111, .iinc 3 1, 3), (114, .goto (-106), 3), (117, .return_, 1)]
set_option maxRecDepth 100000 in
theorem k_Room_complain : jDec m_Room_complain.2.1 t_Room_complain := by decide +kernel
def y_Room_fits : MethodName := ⟨"SharingRoom$Room", "fits", "(IIII)Z"⟩
def m_Room_fits : jM := ("SharingRoom$Room", prog_10_method_49_code, 6, (some FieldType.boolean), "fits", [])
def t_Room_fits : List (Nat × Instr × Nat) := [(0, .aload_n 0, 1), (1, .getfield 34, 3), (4, .aload_n 0, 1), (5, .iload_n 1, 1), (6, .invokevirtual 96, 3), (9, .getfield 138, 3), (12, .iconst 0, 1), (13, .aaload, 1), (14, .aload_n 0, 1), (15, .getfield 59, 3), (18, .iload_n 2, 1), (19, .invokevirtual 246, 3), (22, .istore 5, 2), (24, .aload_n 0, 1), (25, .getfield 34, 3), (28, .iload_n 3, 1), (29, .iload 4, 2), (31, .invokevirtual 180, 3), (34, .iload 5, 2), (36, .if_icmp .ne 7, 3), (39, .iconst 1, 1), (40, .goto 4, 3), (43, .iconst 0, 1), (44, .ireturn, 1)]
set_option maxRecDepth 100000 in
theorem k_Room_fits : jDec m_Room_fits.2.1 t_Room_fits := by decide +kernel
def y_Group_polynomialInExponents : MethodName := ⟨"SharingRoom$Group", "polynomialInExponents", "([III)I"⟩
def m_Group_polynomialInExponents : jM := ("SharingRoom$Group", prog_6_method_5_code, 6, (some FieldType.int), "polynomialInExponents", [])
def t_Group_polynomialInExponents : List (Nat × Instr × Nat) := [(0, .aload_n 0, 1), (1, .getfield 13, 3), (4, .istore 4, 2), (6, .iload_n 2, 1), (7, .iconst 1, 1), (8, .isub, 1), (9, .istore 5, 2), (11, .iload 5, 2), (13, .ifCond .lt 26, 3), (16, .aload_n 0, 1), (17, .aload_n 0, 1), (18, .iload 4, 2), (20, .iload_n 3, 1), (21, .invokevirtual 27, 3), (24, .aload_n 1, 1), (25, .iload 5, 2), (27, .iaload, 1), (28, .invokevirtual 23, 3), (31, .istore 4, 2), (33, .iinc 5 (-1), 3), (36, .goto (-25), 3), (39, .iload 4, 2), (41, .ireturn, 1)]
set_option maxRecDepth 100000 in
theorem k_Group_polynomialInExponents : jDec m_Group_polynomialInExponents.2.1 t_Group_polynomialInExponents := by decide +kernel
def y_Room_answerAll : MethodName := ⟨"SharingRoom$Room", "answerAll", "()V"⟩
def m_Room_answerAll : jM := ("SharingRoom$Room", prog_10_method_29_code, 2, none, "answerAll", [])
def t_Room_answerAll : List (Nat × Instr × Nat) := [(0, .iconst 1, 1), (1, .istore_n 1, 1), (2, .iload_n 1, 1), (3, .aload_n 0, 1), (4, .getfield 55, 3), (7, .if_icmp .gt 38, 3), (10, .aload_n 0, 1), (11, .iload_n 1, 1), (12, .invokevirtual 96, 3), (15, .iconst 3, 1), (16, .invokevirtual 122, 3), (19, .ifCond .eq 20, 3), (22, .aload_n 0, 1), (23, .iload_n 1, 1), (24, .invokevirtual 96, 3), (27, .iconst 3, 1), (28, .invokevirtual 165, 3), (31, .ifCond .ne 8, 3), (34, .aload_n 0, 1), (35, .iload_n 1, 1), (36, .invokevirtual 203, 3), (39, .iinc 1 1, 3), (42, .goto (-40), 3), (45, .return_, 1)]
set_option maxRecDepth 100000 in
theorem k_Room_answerAll : jDec m_Room_answerAll.2.1 t_Room_answerAll := by decide +kernel
def y_Room_answer : MethodName := ⟨"SharingRoom$Room", "answer", "(I)V"⟩
def m_Room_answer : jM := ("SharingRoom$Room", prog_10_method_30_code, 6, none, "answer", [])
def t_Room_answer : List (Nat × Instr × Nat) := [(0, .aload_n 0, 1), (1, .iload_n 1, 1), (2, .invokevirtual 96, 3), (5, .astore_n 2, 1), (6, .iconst 1, 1), (7, .istore_n 3, 1), (8, .iload_n 3, 1), (9, .aload_n 0, 1), (10, .getfield 55, 3), (13, .if_icmp .gt 103, 3), (16, .aload_n 2, 1), (17, .iload_n 3, 1), (18, .invokevirtual 206, 3), (21, .ifCond .ne 6, 3), (24, .goto 86, 3), (27, .aload_n 0, 1), (28, .iload_n 1, 1), (29, .iload_n 3, 1), (30, .iconst 0, 1), (31, .invokevirtual 186, 3), (34, .istore 4, 2), (36, .aload_n 0, 1), (37, .iload_n 1, 1), (38, .iload_n 3, 1), (39, .iconst 1, 1), (40, .invokevirtual 186, 3), (43, .istore 5, 2), (45, .aload_n 2, 1), (46, .getfield 209, 3), (49, .iconst 0, 1), (50, .aaload, 1), (51, .iload_n 3, 1), (52, .aload_n 2, 1), (53, .iconst 4, 1), (54, .invokevirtual 165, 3), (57, .ifCond .eq 16, 3), (60, .aload_n 0, 1), (61, .getfield 42, 3), (64, .iload 4, 2), (66, .iconst 1, 1), (67, .invokevirtual 190, 3), (70, .goto 5, 3), (73, .iload 4, 2), (75, .iastore, 1), (76, .aload_n 2, 1), (77, .getfield 209, 3), (80, .iconst 1, 1), (81, .aaload, 1), (82, .iload_n 3, 1), (83, .iload 5, 2), (85, .iastore, 1), (86, .aload_n 0, 1), (87, .getfield 20, 3), (90, .iconst 3, 1), (91, .iload_n 1, 1), (92, .invokevirtual 176, 3), (95, .aload_n 0, 1), (96, .iload_n 3, 1), (97, .aload_n 2, 1), (98, .getfield 209, 3), (101, .iconst 0, 1), (102, .aaload, 1), (103, .iload_n 3, 1), (104, .iaload, 1), (105, .iload 5, 2), (107, .invokevirtual 212, 3), (110, .iinc 3 1, 3), (113, .goto (-105), 3), (116, .return_, 1)]
set_option maxRecDepth 100000 in
theorem k_Room_answer : jDec m_Room_answer.2.1 t_Room_answer := by decide +kernel
def y_Party_isComplainedOf : MethodName := ⟨"SharingRoom$Party", "isComplainedOf", "(I)Z"⟩
def m_Party_isComplainedOf : jM := ("SharingRoom$Party", prog_7_method_8_code, 2, (some FieldType.boolean), "isComplainedOf", [])
def t_Party_isComplainedOf : List (Nat × Instr × Nat) := [(0, .aload_n 0, 1), (1, .getfield 41, 3), (4, .iload_n 1, 1), (5, .invokestatic 55, 3), (8, .iand, 1), (9, .ifCond .eq 7, 3), (12, .iconst 1, 1), (13, .goto 4, 3), (16, .iconst 0, 1), (17, .ireturn, 1)]
set_option maxRecDepth 100000 in
theorem k_Party_isComplainedOf : jDec m_Party_isComplainedOf.2.1 t_Party_isComplainedOf := by decide +kernel
def y_Room_writeNumbers : MethodName := ⟨"SharingRoom$Room", "writeNumbers", "(III)V"⟩
def m_Room_writeNumbers : jM := ("SharingRoom$Room", prog_10_method_50_code, 4, none, "writeNumbers", [])
def t_Room_writeNumbers : List (Nat × Instr × Nat) := [(0, .aload_n 0, 1), (1, .getfield 20, 3), (4, .iload_n 1, 1), (5, .invokevirtual 200, 3), (8, .aload_n 0, 1), (9, .getfield 20, 3), (12, .iload_n 2, 1), (13, .invokevirtual 183, 3), (16, .aload_n 0, 1), (17, .getfield 20, 3), (20, .iload_n 3, 1), (21, .invokevirtual 183, 3), (24, .return_, 1)]
set_option maxRecDepth 100000 in
theorem k_Room_writeNumbers : jDec m_Room_writeNumbers.2.1 t_Room_writeNumbers := by decide +kernel
def y_Room_judgeAll : MethodName := ⟨"SharingRoom$Room", "judgeAll", "()V"⟩
def m_Room_judgeAll : jM := ("SharingRoom$Room", prog_10_method_31_code, 2, none, "judgeAll", [])
def t_Room_judgeAll : List (Nat × Instr × Nat) := [(0, .iconst 1, 1), (1, .istore_n 1, 1), (2, .iload_n 1, 1), (3, .aload_n 0, 1), (4, .getfield 55, 3), (7, .if_icmp .gt 35, 3), (10, .aload_n 0, 1), (11, .iload_n 1, 1), (12, .invokevirtual 216, 3), (15, .ifCond .ne 16, 3), (18, .aload_n 0, 1), (19, .dup, 1), (20, .getfield 78, 3), (23, .iload_n 1, 1), (24, .invokestatic 130, 3), (27, .ior, 1), (28, .putfield 78, 3), (31, .aload_n 0, 1), (32, .iload_n 1, 1), (33, .invokevirtual 219, 3), (36, .iinc 1 1, 3), (39, .goto (-37), 3), (42, .aload_n 0, 1), (43, .getfield 78, 3), (46, .ifCond .ne 9, 3), (49, .aload_n 0, 1), (50, .iconst 3, 1), (51, .putfield 72, 3), (54, .return_, 1), (55, .iconst 1, 1), (56, .istore_n 1, 1), (57, .iload_n 1, 1), (58, .aload_n 0, 1), (59, .getfield 55, 3), (62, .if_icmp .gt 21, 3), (65, .aload_n 0, 1), (66, .iload_n 1, 1), (67, .iconst 0, 1), (68, .invokevirtual 222, 3), (71, .aload_n 0, 1), (72, .iload_n 1, 1), (73, .iconst 1, 1), (74, .invokevirtual 222, 3), (77, .iinc 1 1, 3), (80, .goto (-23), 3), (83, .return_, 1)]
set_option maxRecDepth 100000 in
theorem k_Room_judgeAll : jDec m_Room_judgeAll.2.1 t_Room_judgeAll := by decide +kernel
def y_Room_isOut : MethodName := ⟨"SharingRoom$Room", "isOut", "(I)Z"⟩
def m_Room_isOut : jM := ("SharingRoom$Room", prog_10_method_32_code, 4, (some FieldType.boolean), "isOut", [])
def t_Room_isOut : List (Nat × Instr × Nat) := [(0, .aload_n 0, 1), (1, .iload_n 1, 1), (2, .invokevirtual 96, 3), (5, .astore_n 2, 1), (6, .aload_n 2, 1), (7, .getfield 172, 3), (10, .ifCond .eq 17, 3), (13, .aload_n 2, 1), (14, .getfield 133, 3), (17, .invokestatic 66, 3), (20, .aload_n 0, 1), (21, .getfield 59, 3), (24, .if_icmp .lt 5, 3), (27, .iconst 1, 1), (28, .ireturn, 1), (29, .iconst 1, 1), (30, .istore_n 3, 1), (31, .iload_n 3, 1), (32, .aload_n 0, 1), (33, .getfield 55, 3), (36, .if_icmp .gt 52, 3), (39, .aload_n 2, 1), (40, .iload_n 3, 1), (41, .invokevirtual 206, 3), (44, .ifCond .eq 38, 3), (47, .aload_n 2, 1), (48, .iload_n 3, 1), (49, .invokevirtual 225, 3), (52, .ifCond .eq 28, 3), (55, .aload_n 0, 1), (56, .iload_n 1, 1), (57, .iload_n 3, 1), (58, .aload_n 2, 1), (59, .getfield 209, 3), (62, .iconst 0, 1), (63, .aaload, 1), (64, .iload_n 3, 1), (65, .iaload, 1), (66, .aload_n 2, 1), (67, .getfield 209, 3), (70, .iconst 1, 1), (71, .aaload, 1), (72, .iload_n 3, 1), (73, .iaload, 1), (74, .invokevirtual 196, 3), (77, .ifCond .ne 5, 3), (80, .iconst 1, 1), (81, .ireturn, 1), (82, .iinc 3 1, 3), (85, .goto (-54), 3), (88, .iconst 0, 1), (89, .ireturn, 1)]
set_option maxRecDepth 100000 in
theorem k_Room_isOut : jDec m_Room_isOut.2.1 t_Room_isOut := by decide +kernel
def y_Integer_bitCount : MethodName := ⟨"java/lang/Integer", "bitCount", "(I)I"⟩
def m_Integer_bitCount : jM := ("java/lang/Integer", prog_19_method_49_code, 1, (some FieldType.int), "bitCount", [])
def t_Integer_bitCount : List (Nat × Instr × Nat) := [(0, .iload_n 0, 1), (1, .iload_n 0, 1), (2, .iconst 1, 1), (3, .iushr, 1), (4, .ldc_w 265, 3), (7, .iand, 1), (8, .isub, 1), (9, .istore_n 0, 1), (10, .iload_n 0, 1), (11, .ldc_w 266, 3), (14, .iand, 1), (15, .iload_n 0, 1), (16, .iconst 2, 1), (17, .iushr, 1), (18, .ldc_w 266, 3), (21, .iand, 1), (22, .iadd, 1), (23, .istore_n 0, 1), (24, .iload_n 0, 1), (25, .iload_n 0, 1), (26, .iconst 4, 1), (27, .iushr, 1), (28, .iadd, 1), (29, .ldc_w 267, 3), (32, .iand, 1), (33, .istore_n 0, 1), (34, .iload_n 0, 1), (35, .iload_n 0, 1), (36, .bipush 8, 2), (38, .iushr, 1), (39, .iadd, 1), (40, .istore_n 0, 1), (41, .iload_n 0, 1), (42, .iload_n 0, 1), (43, .bipush 16, 2), (45, .iushr, 1), (46, .iadd, 1), (47, .istore_n 0, 1), (48, .iload_n 0, 1), (49, .bipush 63, 2), (51, .iand, 1), (52, .ireturn, 1)]
set_option maxRecDepth 100000 in
theorem k_Integer_bitCount : jDec m_Integer_bitCount.2.1 t_Integer_bitCount := by decide +kernel
def y_Party_hasAnswered : MethodName := ⟨"SharingRoom$Party", "hasAnswered", "(I)Z"⟩
def m_Party_hasAnswered : jM := ("SharingRoom$Party", prog_7_method_9_code, 2, (some FieldType.boolean), "hasAnswered", [])
def t_Party_hasAnswered : List (Nat × Instr × Nat) := [(0, .aload_n 0, 1), (1, .getfield 26, 3), (4, .iconst 0, 1), (5, .aaload, 1), (6, .iload_n 1, 1), (7, .iaload, 1), (8, .iconst (-1), 1), (9, .if_icmp .eq 7, 3), (12, .iconst 1, 1), (13, .goto 4, 3), (16, .iconst 0, 1), (17, .ireturn, 1)]
set_option maxRecDepth 100000 in
theorem k_Party_hasAnswered : jDec m_Party_hasAnswered.2.1 t_Party_hasAnswered := by decide +kernel
def y_Room_takeAnswers : MethodName := ⟨"SharingRoom$Room", "takeAnswers", "(I)V"⟩
def m_Room_takeAnswers : jM := ("SharingRoom$Room", prog_10_method_33_code, 4, none, "takeAnswers", [])
def t_Room_takeAnswers : List (Nat × Instr × Nat) := [(0, .aload_n 0, 1), (1, .iload_n 1, 1), (2, .invokevirtual 96, 3), (5, .astore_n 2, 1), (6, .iconst 1, 1), (7, .istore_n 3, 1), (8, .iload_n 3, 1), (9, .aload_n 0, 1), (10, .getfield 55, 3), (13, .if_icmp .gt 57, 3), (16, .aload_n 2, 1), (17, .iload_n 3, 1), (18, .invokevirtual 225, 3), (21, .ifCond .eq 43, 3), (24, .aload_n 0, 1), (25, .iload_n 3, 1), (26, .invokevirtual 96, 3), (29, .getfield 136, 3), (32, .iconst 0, 1), (33, .aaload, 1), (34, .iload_n 1, 1), (35, .aload_n 2, 1), (36, .getfield 209, 3), (39, .iconst 0, 1), (40, .aaload, 1), (41, .iload_n 3, 1), (42, .iaload, 1), (43, .iastore, 1), (44, .aload_n 0, 1), (45, .iload_n 3, 1), (46, .invokevirtual 96, 3), (49, .getfield 136, 3), (52, .iconst 1, 1), (53, .aaload, 1), (54, .iload_n 1, 1), (55, .aload_n 2, 1), (56, .getfield 209, 3), (59, .iconst 1, 1), (60, .aaload, 1), (61, .iload_n 3, 1), (62, .iaload, 1), (63, .iastore, 1), (64, .iinc 3 1, 3), (67, .goto (-59), 3), (70, .return_, 1)]
set_option maxRecDepth 100000 in
theorem k_Room_takeAnswers : jDec m_Room_takeAnswers.2.1 t_Room_takeAnswers := by decide +kernel
def y_Room_sumUp : MethodName := ⟨"SharingRoom$Room", "sumUp", "(II)V"⟩
def m_Room_sumUp : jM := ("SharingRoom$Room", prog_10_method_34_code, 5, none, "sumUp", [])
def t_Room_sumUp : List (Nat × Instr × Nat) := [(0, .iconst 0, 1), (1, .istore_n 3, 1), (2, .iconst 1, 1), (3, .istore 4, 2), (5, .iload 4, 2), (7, .aload_n 0, 1), (8, .getfield 55, 3), (11, .if_icmp .gt 40, 3), (14, .aload_n 0, 1), (15, .iload 4, 2), (17, .invokevirtual 228, 3), (20, .ifCond .eq 25, 3), (23, .aload_n 0, 1), (24, .getfield 42, 3), (27, .iload_n 3, 1), (28, .aload_n 0, 1), (29, .iload_n 1, 1), (30, .invokevirtual 96, 3), (33, .getfield 136, 3), (36, .iload_n 2, 1), (37, .aaload, 1), (38, .iload 4, 2), (40, .iaload, 1), (41, .invokevirtual 190, 3), (44, .istore_n 3, 1), (45, .iinc 4 1, 3), (48, .goto (-43), 3), (51, .aload_n 0, 1), (52, .iload_n 1, 1), (53, .invokevirtual 96, 3), (56, .getfield 141, 3), (59, .iload_n 2, 1), (60, .iload_n 3, 1), (61, .iastore, 1), (62, .return_, 1)]
set_option maxRecDepth 100000 in
theorem k_Room_sumUp : jDec m_Room_sumUp.2.1 t_Room_sumUp := by decide +kernel
def y_Room_isQualified : MethodName := ⟨"SharingRoom$Room", "isQualified", "(I)Z"⟩
def m_Room_isQualified : jM := ("SharingRoom$Room", prog_10_method_51_code, 2, (some FieldType.boolean), "isQualified", [])
def t_Room_isQualified : List (Nat × Instr × Nat) := [(0, .aload_n 0, 1), (1, .getfield 78, 3), (4, .iload_n 1, 1), (5, .invokestatic 130, 3), (8, .iand, 1), (9, .ifCond .eq 7, 3), (12, .iconst 1, 1), (13, .goto 4, 3), (16, .iconst 0, 1), (17, .ireturn, 1)]
set_option maxRecDepth 100000 in
theorem k_Room_isQualified : jDec m_Room_isQualified.2.1 t_Room_isQualified := by decide +kernel
def y_Room_extractAll : MethodName := ⟨"SharingRoom$Room", "extractAll", "()V"⟩
def m_Room_extractAll : jM := ("SharingRoom$Room", prog_10_method_35_code, 2, none, "extractAll", [])
def t_Room_extractAll : List (Nat × Instr × Nat) := [(0, .iconst 1, 1), (1, .istore_n 1, 1), (2, .iload_n 1, 1), (3, .aload_n 0, 1), (4, .getfield 55, 3), (7, .if_icmp .gt 34, 3), (10, .aload_n 0, 1), (11, .iload_n 1, 1), (12, .invokevirtual 228, 3), (15, .ifCond .eq 20, 3), (18, .aload_n 0, 1), (19, .iload_n 1, 1), (20, .invokevirtual 96, 3), (23, .iconst 5, 1), (24, .invokevirtual 122, 3), (27, .ifCond .eq 8, 3), (30, .aload_n 0, 1), (31, .iload_n 1, 1), (32, .invokevirtual 231, 3), (35, .iinc 1 1, 3), (38, .goto (-36), 3), (41, .return_, 1)]
set_option maxRecDepth 100000 in
theorem k_Room_extractAll : jDec m_Room_extractAll.2.1 t_Room_extractAll := by decide +kernel
def y_Room_extract : MethodName := ⟨"SharingRoom$Room", "extract", "(I)V"⟩
def m_Room_extract : jM := ("SharingRoom$Room", prog_10_method_36_code, 5, none, "extract", [])
def t_Room_extract : List (Nat × Instr × Nat) := [(0, .aload_n 0, 1), (1, .iload_n 1, 1), (2, .invokevirtual 96, 3), (5, .astore_n 2, 1), (6, .aload_n 2, 1), (7, .iconst 1, 1), (8, .putfield 234, 3), (11, .aload_n 0, 1), (12, .getfield 20, 3), (15, .iconst 5, 1), (16, .iload_n 1, 1), (17, .invokevirtual 176, 3), (20, .iconst 0, 1), (21, .istore_n 3, 1), (22, .iload_n 3, 1), (23, .aload_n 0, 1), (24, .getfield 59, 3), (27, .if_icmp .ge 82, 3), (30, .aload_n 2, 1), (31, .getfield 101, 3), (34, .iconst 0, 1), (35, .aaload, 1), (36, .iload_n 3, 1), (37, .iaload, 1), (38, .istore 4, 2), (40, .iload_n 3, 1), (41, .ifCond .ne 23, 3), (44, .aload_n 2, 1), (45, .iconst 5, 1), (46, .invokevirtual 165, 3), (49, .ifCond .eq 15, 3), (52, .aload_n 0, 1), (53, .getfield 42, 3), (56, .iload 4, 2), (58, .iconst 1, 1), (59, .invokevirtual 190, 3), (62, .istore 4, 2), (64, .aload_n 2, 1), (65, .getfield 138, 3), (68, .iconst 1, 1), (69, .aaload, 1), (70, .iload_n 3, 1), (71, .aload_n 0, 1), (72, .getfield 34, 3), (75, .aload_n 0, 1), (76, .getfield 34, 3), (79, .getfield 237, 3), (82, .iload 4, 2), (84, .invokevirtual 240, 3), (87, .iastore, 1), (88, .aload_n 0, 1), (89, .getfield 20, 3), (92, .aload_n 2, 1), (93, .getfield 138, 3), (96, .iconst 1, 1), (97, .aaload, 1), (98, .iload_n 3, 1), (99, .iaload, 1), (100, .invokevirtual 183, 3), (103, .iinc 3 1, 3), (106, .goto (-84), 3), (109, .return_, 1)]
set_option maxRecDepth 100000 in
theorem k_Room_extract : jDec m_Room_extract.2.1 t_Room_extract := by decide +kernel
def y_Room_accuseAll : MethodName := ⟨"SharingRoom$Room", "accuseAll", "()V"⟩
def m_Room_accuseAll : jM := ("SharingRoom$Room", prog_10_method_37_code, 2, none, "accuseAll", [])
def t_Room_accuseAll : List (Nat × Instr × Nat) := [(0, .iconst 1, 1), (1, .istore_n 1, 1), (2, .iload_n 1, 1), (3, .aload_n 0, 1), (4, .getfield 55, 3), (7, .if_icmp .gt 27, 3), (10, .aload_n 0, 1), (11, .iload_n 1, 1), (12, .invokevirtual 96, 3), (15, .bipush 6, 2), (17, .invokevirtual 122, 3), (20, .ifCond .eq 8, 3), (23, .aload_n 0, 1), (24, .iload_n 1, 1), (25, .invokevirtual 243, 3), (28, .iinc 1 1, 3), (31, .goto (-29), 3), (34, .return_, 1)]
set_option maxRecDepth 100000 in
theorem k_Room_accuseAll : jDec m_Room_accuseAll.2.1 t_Room_accuseAll := by decide +kernel
def y_Room_accuse : MethodName := ⟨"SharingRoom$Room", "accuse", "(I)V"⟩
def m_Room_accuse : jM := ("SharingRoom$Room", prog_10_method_38_code, 6, none, "accuse", [])
def t_Room_accuse : List (Nat × Instr × Nat) := [(0, .iconst 1, 1), (1, .istore_n 2, 1), (2, .iload_n 2, 1), (3, .aload_n 0, 1), (4, .getfield 55, 3), (7, .if_icmp .gt 145, 3), (10, .aload_n 0, 1), (11, .iload_n 2, 1), (12, .invokevirtual 228, 3), (15, .ifCond .eq 131, 3), (18, .aload_n 0, 1), (19, .iload_n 2, 1), (20, .invokevirtual 96, 3), (23, .getfield 234, 3), (26, .ifCond .ne 6, 3), (29, .goto 117, 3), (32, .aload_n 0, 1), (33, .iload_n 1, 1), (34, .invokevirtual 96, 3), (37, .getfield 136, 3), (40, .iconst 0, 1), (41, .aaload, 1), (42, .iload_n 2, 1), (43, .iaload, 1), (44, .istore_n 3, 1), (45, .aload_n 0, 1), (46, .iload_n 1, 1), (47, .invokevirtual 96, 3), (50, .getfield 136, 3), (53, .iconst 1, 1), (54, .aaload, 1), (55, .iload_n 2, 1), (56, .iaload, 1), (57, .istore 4, 2), (59, .aload_n 0, 1), (60, .getfield 34, 3), (63, .aload_n 0, 1), (64, .iload_n 2, 1), (65, .invokevirtual 96, 3), (68, .getfield 138, 3), (71, .iconst 1, 1), (72, .aaload, 1), (73, .aload_n 0, 1), (74, .getfield 59, 3), (77, .iload_n 1, 1), (78, .invokevirtual 246, 3), (81, .istore 5, 2), (83, .aload_n 0, 1), (84, .getfield 34, 3), (87, .aload_n 0, 1), (88, .getfield 34, 3), (91, .getfield 237, 3), (94, .iload_n 3, 1), (95, .invokevirtual 240, 3), (98, .iload 5, 2), (100, .if_icmp .eq 46, 3), (103, .aload_n 0, 1), (104, .iload_n 2, 1), (105, .iload_n 1, 1), (106, .iload_n 3, 1), (107, .iload 4, 2), (109, .invokevirtual 196, 3), (112, .ifCond .eq 34, 3), (115, .aload_n 0, 1), (116, .dup, 1), (117, .getfield 81, 3), (120, .iload_n 2, 1), (121, .invokestatic 130, 3), (124, .ior, 1), (125, .putfield 81, 3), (128, .aload_n 0, 1), (129, .getfield 20, 3), (132, .bipush 6, 2), (134, .iload_n 1, 1), (135, .invokevirtual 176, 3), (138, .aload_n 0, 1), (139, .iload_n 2, 1), (140, .iload_n 3, 1), (141, .iload 4, 2), (143, .invokevirtual 212, 3), (146, .iinc 2 1, 3), (149, .goto (-147), 3), (152, .return_, 1)]
set_option maxRecDepth 100000 in
theorem k_Room_accuse : jDec m_Room_accuse.2.1 t_Room_accuse := by decide +kernel
def y_Room_openAll : MethodName := ⟨"SharingRoom$Room", "openAll", "()V"⟩
def m_Room_openAll : jM := ("SharingRoom$Room", prog_10_method_39_code, 3, none, "openAll", [])
def t_Room_openAll : List (Nat × Instr × Nat) := [(0, .iconst 0, 1), (1, .istore_n 1, 1), (2, .iconst 1, 1), (3, .istore_n 2, 1), (4, .iload_n 2, 1), (5, .aload_n 0, 1), (6, .getfield 55, 3), (9, .if_icmp .gt 147, 3), (12, .aload_n 0, 1), (13, .iload_n 2, 1), (14, .invokevirtual 228, 3), (17, .ifCond .ne 6, 3), (20, .goto 130, 3), (23, .aload_n 0, 1), (24, .iload_n 2, 1), (25, .invokevirtual 96, 3), (28, .getfield 234, 3), (31, .ifCond .eq 45, 3), (34, .aload_n 0, 1), (35, .getfield 81, 3), (38, .iload_n 2, 1), (39, .invokestatic 130, 3), (42, .iand, 1), (43, .ifCond .ne 33, 3), (46, .aload_n 0, 1), (47, .aload_n 0, 1), (48, .getfield 34, 3), (51, .aload_n 0, 1), (52, .getfield 90, 3), (55, .aload_n 0, 1), (56, .iload_n 2, 1), (57, .invokevirtual 96, 3), (60, .getfield 138, 3), (63, .iconst 1, 1), (64, .aaload, 1), (65, .iconst 0, 1), (66, .iaload, 1), (67, .invokevirtual 250, 3), (70, .putfield 90, 3), (73, .goto 77, 3), (76, .aload_n 0, 1), (77, .iload_n 2, 1), (78, .invokevirtual 253, 3), (81, .aload_n 0, 1), (82, .getfield 50, 3), (85, .invokevirtual 256, 3), (88, .aload_n 0, 1), (89, .getfield 59, 3), (92, .if_icmp .ge 8, 3), (95, .iconst 1, 1), (96, .istore_n 1, 1), (97, .goto 53, 3), (100, .aload_n 0, 1), (101, .dup, 1), (102, .getfield 84, 3), (105, .iload_n 2, 1), (106, .invokestatic 130, 3), (109, .ior, 1), (110, .putfield 84, 3), (113, .aload_n 0, 1), (114, .aload_n 0, 1), (115, .getfield 34, 3), (118, .aload_n 0, 1), (119, .getfield 90, 3), (122, .aload_n 0, 1), (123, .getfield 34, 3), (126, .aload_n 0, 1), (127, .getfield 34, 3), (130, .getfield 237, 3), (133, .aload_n 0, 1), (134, .getfield 50, 3), (137, .iconst 0, 1), (138, .invokevirtual 258, 3), (141, .invokevirtual 240, 3), (144, .invokevirtual 250, 3), (147, .putfield 90, 3), (150, .iinc 2 1, 3), (153, .goto (-149), 3), (156, .aload_n 0, 1), (157, .iload_n 1, 1), (158, .ifCond .eq 7, 3), (161, .iconst 3, 1), (162, .goto 4, 3), (165, .iconst 2, 1), (166, .putfield 72, 3), (169, .return_, 1)]
set_option maxRecDepth 100000 in
theorem k_Room_openAll : jDec m_Room_openAll.2.1 t_Room_openAll := by decide +kernel
def y_Room_collectNumbers : MethodName := ⟨"SharingRoom$Room", "collectNumbers", "(I)V"⟩
def m_Room_collectNumbers : jM := ("SharingRoom$Room", prog_10_method_40_code, 6, none, "collectNumbers", [])
def t_Room_collectNumbers : List (Nat × Instr × Nat) := [(0, .aload_n 0, 1), (1, .getfield 50, 3), (4, .aload_n 0, 1), (5, .getfield 42, 3), (8, .invokevirtual 261, 3), (11, .iconst 1, 1), (12, .istore_n 2, 1), (13, .iload_n 2, 1), (14, .aload_n 0, 1), (15, .getfield 55, 3), (18, .if_icmp .gt 124, 3), (21, .aload_n 0, 1), (22, .iload_n 2, 1), (23, .invokevirtual 96, 3), (26, .astore_n 3, 1), (27, .aload_n 3, 1), (28, .bipush 7, 2), (30, .invokevirtual 122, 3), (33, .ifCond .ne 6, 3), (36, .goto 100, 3), (39, .aload_n 3, 1), (40, .getfield 136, 3), (43, .iconst 0, 1), (44, .aaload, 1), (45, .iload_n 1, 1), (46, .iaload, 1), (47, .istore 4, 2), (49, .aload_n 3, 1), (50, .bipush 6, 2), (52, .invokevirtual 165, 3), (55, .ifCond .eq 15, 3), (58, .aload_n 0, 1), (59, .getfield 42, 3), (62, .iload 4, 2), (64, .iconst 1, 1), (65, .invokevirtual 190, 3), (68, .istore 4, 2), (70, .aload_n 3, 1), (71, .getfield 136, 3), (74, .iconst 1, 1), (75, .aaload, 1), (76, .iload_n 1, 1), (77, .iaload, 1), (78, .istore 5, 2), (80, .aload_n 0, 1), (81, .getfield 20, 3), (84, .bipush 7, 2), (86, .iload_n 2, 1), (87, .invokevirtual 176, 3), (90, .aload_n 0, 1), (91, .iload_n 1, 1), (92, .iload 4, 2), (94, .iload 5, 2), (96, .invokevirtual 212, 3), (99, .aload_n 0, 1), (100, .getfield 50, 3), (103, .invokevirtual 256, 3), (106, .aload_n 0, 1), (107, .getfield 59, 3), (110, .if_icmp .ge 26, 3), (113, .aload_n 0, 1), (114, .iload_n 1, 1), (115, .iload_n 2, 1), (116, .iload 4, 2), (118, .iload 5, 2), (120, .invokevirtual 196, 3), (123, .ifCond .eq 13, 3), (126, .aload_n 0, 1), (127, .getfield 50, 3), (130, .iload_n 2, 1), (131, .iload 4, 2), (133, .invokevirtual 263, 3), (136, .iinc 2 1, 3), (139, .goto (-126), 3), (142, .return_, 1)]
set_option maxRecDepth 100000 in
theorem k_Room_collectNumbers : jDec m_Room_collectNumbers.2.1 t_Room_collectNumbers := by decide +kernel
