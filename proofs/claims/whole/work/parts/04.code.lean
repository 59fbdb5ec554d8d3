def y_Law_complaints : MethodName := ⟨"SharingRoomLaw", "complaints", "(LSharingRoom;I[J)I"⟩
def m_Law_complaints : jM := ("SharingRoomLaw", method_11_code, 4, (some FieldType.int), "complaints", [(0, 9, 12, 13)])
def t_Law_complaints : List (Nat × Instr × Nat) := [(0, .aload_n 2, 1), (1, .iconst 0, 1), (2, .aload_n 0, 1), (3, .iload_n 1, 1), (4, .invokevirtual 44, 3), (7, .i2l, 1), (8, .lastore, 1), (9, .goto 6, 3), (12, .astore_n 3, 1), (13, .iconst 1, 1), (14, .ireturn, 1), (15, .iconst 0, 1), (16, .ireturn, 1)]
set_option maxRecDepth 100000 in
theorem k_Law_complaints : jDec m_Law_complaints.2.1 t_Law_complaints := by decide +kernel
def y_SR_complaints : MethodName := ⟨"SharingRoom", "complaints", "(I)I"⟩
def m_SR_complaints : jM := ("SharingRoom", prog_1_method_13_code, 2, (some FieldType.int), "complaints", [])
def t_SR_complaints : List (Nat × Instr × Nat) := [(0, .aload_n 0, 1), (1, .iload_n 1, 1), (2, .invokevirtual 112, 3), (5, .aload_n 0, 1), (6, .getfield 43, 3), (9, .iload_n 1, 1), (10, .invokevirtual 165, 3), (13, .ireturn, 1)]
set_option maxRecDepth 100000 in
theorem k_SR_complaints : jDec m_SR_complaints.2.1 t_SR_complaints := by decide +kernel
def y_Room_complaintBits : MethodName := ⟨"SharingRoom$Room", "complaintBits", "(I)I"⟩
def m_Room_complaintBits : jM := ("SharingRoom$Room", prog_10_method_20_code, 2, (some FieldType.int), "complaintBits", [])
def t_Room_complaintBits : List (Nat × Instr × Nat) := [(0, .aload_n 0, 1), (1, .iload_n 1, 1), (2, .invokevirtual 96, 3), (5, .getfield 133, 3), (8, .aload_n 0, 1), (9, .invokevirtual 62, 3), (12, .iand, 1), (13, .ireturn, 1)]
set_option maxRecDepth 100000 in
theorem k_Room_complaintBits : jDec m_Room_complaintBits.2.1 t_Room_complaintBits := by decide +kernel
def y_Law_received : MethodName := ⟨"SharingRoomLaw", "received", "(LSharingRoom;III[J)I"⟩
def m_Law_received : jM := ("SharingRoomLaw", method_12_code, 6, (some FieldType.int), "received", [(0, 12, 15, 13)])
def t_Law_received : List (Nat × Instr × Nat) := [(0, .aload 4, 2), (2, .iconst 0, 1), (3, .aload_n 0, 1), (4, .iload_n 1, 1), (5, .iload_n 2, 1), (6, .iload_n 3, 1), (7, .invokevirtual 47, 3), (10, .i2l, 1), (11, .lastore, 1), (12, .goto 7, 3), (15, .astore 5, 2), (17, .iconst 1, 1), (18, .ireturn, 1), (19, .iconst 0, 1), (20, .ireturn, 1)]
set_option maxRecDepth 100000 in
theorem k_Law_received : jDec m_Law_received.2.1 t_Law_received := by decide +kernel
def y_SR_received : MethodName := ⟨"SharingRoom", "received", "(III)I"⟩
def m_SR_received : jM := ("SharingRoom", prog_1_method_14_code, 4, (some FieldType.int), "received", [])
def t_SR_received : List (Nat × Instr × Nat) := [(0, .aload_n 0, 1), (1, .iload_n 1, 1), (2, .invokevirtual 112, 3), (5, .aload_n 0, 1), (6, .iload_n 2, 1), (7, .invokevirtual 112, 3), (10, .iload_n 3, 1), (11, .invokestatic 118, 3), (14, .aload_n 0, 1), (15, .getfield 43, 3), (18, .iload_n 1, 1), (19, .iload_n 2, 1), (20, .iload_n 3, 1), (21, .invokevirtual 168, 3), (24, .ireturn, 1)]
set_option maxRecDepth 100000 in
theorem k_SR_received : jDec m_SR_received.2.1 t_SR_received := by decide +kernel
def y_Room_numberOf : MethodName := ⟨"SharingRoom$Room", "numberOf", "(III)I"⟩
def m_Room_numberOf : jM := ("SharingRoom$Room", prog_10_method_21_code, 4, (some FieldType.int), "numberOf", [])
def t_Room_numberOf : List (Nat × Instr × Nat) := [(0, .aload_n 0, 1), (1, .iload_n 2, 1), (2, .invokevirtual 96, 3), (5, .getfield 136, 3), (8, .iload_n 3, 1), (9, .aaload, 1), (10, .iload_n 1, 1), (11, .iaload, 1), (12, .ireturn, 1)]
set_option maxRecDepth 100000 in
theorem k_Room_numberOf : jDec m_Room_numberOf.2.1 t_Room_numberOf := by decide +kernel
def y_Law_commitment : MethodName := ⟨"SharingRoomLaw", "commitment", "(LSharingRoom;III[J)I"⟩
def m_Law_commitment : jM := ("SharingRoomLaw", method_13_code, 6, (some FieldType.int), "commitment", [(0, 12, 15, 13)])
def t_Law_commitment : List (Nat × Instr × Nat) := [(0, .aload 4, 2), (2, .iconst 0, 1), (3, .aload_n 0, 1), (4, .iload_n 1, 1), (5, .iload_n 2, 1), (6, .iload_n 3, 1), (7, .invokevirtual 51, 3), (10, .i2l, 1), (11, .lastore, 1), (12, .goto 7, 3), (15, .astore 5, 2), (17, .iconst 1, 1), (18, .ireturn, 1), (19, .iconst 0, 1), (20, .ireturn, 1)]
set_option maxRecDepth 100000 in
theorem k_Law_commitment : jDec m_Law_commitment.2.1 t_Law_commitment := by decide +kernel
def y_SR_commitment : MethodName := ⟨"SharingRoom", "commitment", "(III)I"⟩
def m_SR_commitment : jM := ("SharingRoom", prog_1_method_15_code, 4, (some FieldType.int), "commitment", [])
def t_SR_commitment : List (Nat × Instr × Nat) := [(0, .aload_n 0, 1), (1, .iload_n 1, 1), (2, .invokevirtual 112, 3), (5, .aload_n 0, 1), (6, .iload_n 2, 1), (7, .invokevirtual 115, 3), (10, .iload_n 3, 1), (11, .invokestatic 118, 3), (14, .aload_n 0, 1), (15, .getfield 43, 3), (18, .iload_n 1, 1), (19, .iload_n 2, 1), (20, .iload_n 3, 1), (21, .invokevirtual 172, 3), (24, .ireturn, 1)]
set_option maxRecDepth 100000 in
theorem k_SR_commitment : jDec m_SR_commitment.2.1 t_SR_commitment := by decide +kernel
def y_Room_elementOf : MethodName := ⟨"SharingRoom$Room", "elementOf", "(III)I"⟩
def m_Room_elementOf : jM := ("SharingRoom$Room", prog_10_method_22_code, 4, (some FieldType.int), "elementOf", [])
def t_Room_elementOf : List (Nat × Instr × Nat) := [(0, .aload_n 0, 1), (1, .iload_n 1, 1), (2, .invokevirtual 96, 3), (5, .getfield 138, 3), (8, .iload_n 3, 1), (9, .aaload, 1), (10, .iload_n 2, 1), (11, .iaload, 1), (12, .ireturn, 1)]
set_option maxRecDepth 100000 in
theorem k_Room_elementOf : jDec m_Room_elementOf.2.1 t_Room_elementOf := by decide +kernel
def y_Law_share : MethodName := ⟨"SharingRoomLaw", "share", "(LSharingRoom;II[J)I"⟩
def m_Law_share : jM := ("SharingRoomLaw", method_14_code, 5, (some FieldType.int), "share", [(0, 10, 13, 13)])
def t_Law_share : List (Nat × Instr × Nat) := [(0, .aload_n 3, 1), (1, .iconst 0, 1), (2, .aload_n 0, 1), (3, .iload_n 1, 1), (4, .iload_n 2, 1), (5, .invokevirtual 54, 3), (8, .i2l, 1), (9, .lastore, 1), (10, .goto 7, 3), (13, .astore 4, 2), (15, .iconst 1, 1), (16, .ireturn, 1), (17, .iconst 0, 1), (18, .ireturn, 1)]
set_option maxRecDepth 100000 in
theorem k_Law_share : jDec m_Law_share.2.1 t_Law_share := by decide +kernel
def y_SR_share : MethodName := ⟨"SharingRoom", "share", "(II)I"⟩
def m_SR_share : jM := ("SharingRoom", prog_1_method_16_code, 3, (some FieldType.int), "share", [])
def t_SR_share : List (Nat × Instr × Nat) := [(0, .aload_n 0, 1), (1, .iload_n 1, 1), (2, .invokevirtual 112, 3), (5, .iload_n 2, 1), (6, .invokestatic 118, 3), (9, .aload_n 0, 1), (10, .getfield 43, 3), (13, .iload_n 1, 1), (14, .iload_n 2, 1), (15, .invokevirtual 175, 3), (18, .ireturn, 1)]
set_option maxRecDepth 100000 in
theorem k_SR_share : jDec m_SR_share.2.1 t_SR_share := by decide +kernel
def y_Room_shareOf : MethodName := ⟨"SharingRoom$Room", "shareOf", "(II)I"⟩
def m_Room_shareOf : jM := ("SharingRoom$Room", prog_10_method_23_code, 3, (some FieldType.int), "shareOf", [])
def t_Room_shareOf : List (Nat × Instr × Nat) := [(0, .aload_n 0, 1), (1, .iload_n 1, 1), (2, .invokevirtual 96, 3), (5, .getfield 141, 3), (8, .iload_n 2, 1), (9, .iaload, 1), (10, .ireturn, 1)]
set_option maxRecDepth 100000 in
theorem k_Room_shareOf : jDec m_Room_shareOf.2.1 t_Room_shareOf := by decide +kernel
def y_Law_told : MethodName := ⟨"SharingRoomLaw", "told", "(LSharingRoom;I[J)I"⟩
def m_Law_told : jM := ("SharingRoomLaw", method_15_code, 4, (some FieldType.int), "told", [(0, 9, 12, 60)])
def t_Law_told : List (Nat × Instr × Nat) := [(0, .aload_n 2, 1), (1, .iconst 0, 1), (2, .aload_n 0, 1), (3, .iload_n 1, 1), (4, .invokevirtual 57, 3), (7, .i2l, 1), (8, .lastore, 1), (9, .goto 6, 3), (12, .astore_n 3, 1), (13, .iconst 1, 1), (14, .ireturn, 1), (15, .iconst 0, 1), (16, .ireturn, 1)]
set_option maxRecDepth 100000 in
theorem k_Law_told : jDec m_Law_told.2.1 t_Law_told := by decide +kernel
def y_SR_told : MethodName := ⟨"SharingRoom", "told", "(I)I"⟩
def m_SR_told : jM := ("SharingRoom", prog_1_method_18_code, 2, (some FieldType.int), "told", [])
def t_SR_told : List (Nat × Instr × Nat) := [(0, .iload_n 1, 1), (1, .ifCond .lt 17, 3), (4, .iload_n 1, 1), (5, .aload_n 0, 1), (6, .getfield 43, 3), (9, .invokevirtual 179, 3), (12, .invokevirtual 183, 3), (15, .if_icmp .lt 13, 3), (18, .new 186, 3), (21, .dup, 1), (22, .ldc 188, 2), (24, .invokespecial 190, 3), (27, .athrow, 1), (28, .aload_n 0, 1), (29, .getfield 43, 3), (32, .invokevirtual 179, 3), (35, .iload_n 1, 1), (36, .invokevirtual 191, 3), (39, .ireturn, 1)]
set_option maxRecDepth 100000 in
theorem k_SR_told : jDec m_SR_told.2.1 t_SR_told := by decide +kernel
def y_Board_byteAt : MethodName := ⟨"SharingRoom$Board", "byteAt", "(I)I"⟩
def m_Board_byteAt : jM := ("SharingRoom$Board", prog_2_method_4_code, 2, (some FieldType.int), "byteAt", [])
def t_Board_byteAt : List (Nat × Instr × Nat) := [(0, .aload_n 0, 1), (1, .getfield 9, 3), (4, .iload_n 1, 1), (5, .baload, 1), (6, .sipush 255, 3), (9, .iand, 1), (10, .ireturn, 1)]
set_option maxRecDepth 100000 in
theorem k_Board_byteAt : jDec m_Board_byteAt.2.1 t_Board_byteAt := by decide +kernel
def y_Law_digest : MethodName := ⟨"SharingRoomLaw", "digest", "(LSharingRoom;I[J)I"⟩
def m_Law_digest : jM := ("SharingRoomLaw", method_16_code, 4, (some FieldType.int), "digest", [(0, 9, 12, 60)])
def t_Law_digest : List (Nat × Instr × Nat) := [(0, .aload_n 2, 1), (1, .iconst 0, 1), (2, .aload_n 0, 1), (3, .iload_n 1, 1), (4, .invokevirtual 62, 3), (7, .i2l, 1), (8, .lastore, 1), (9, .goto 6, 3), (12, .astore_n 3, 1), (13, .iconst 1, 1), (14, .ireturn, 1), (15, .iconst 0, 1), (16, .ireturn, 1)]
set_option maxRecDepth 100000 in
theorem k_Law_digest : jDec m_Law_digest.2.1 t_Law_digest := by decide +kernel
def y_SR_digest : MethodName := ⟨"SharingRoom", "digest", "(I)I"⟩
def m_SR_digest : jM := ("SharingRoom", prog_1_method_19_code, 2, (some FieldType.int), "digest", [])
def t_SR_digest : List (Nat × Instr × Nat) := [(0, .iload_n 1, 1), (1, .ifCond .lt 9, 3), (4, .iload_n 1, 1), (5, .bipush 8, 2), (7, .if_icmp .lt 13, 3), (10, .new 186, 3), (13, .dup, 1), (14, .ldc 196, 2), (16, .invokespecial 190, 3), (19, .athrow, 1), (20, .aload_n 0, 1), (21, .getfield 43, 3), (24, .invokevirtual 179, 3), (27, .iload_n 1, 1), (28, .invokevirtual 198, 3), (31, .ireturn, 1)]
set_option maxRecDepth 100000 in
theorem k_SR_digest : jDec m_SR_digest.2.1 t_SR_digest := by decide +kernel
def y_Board_digestWord : MethodName := ⟨"SharingRoom$Board", "digestWord", "(I)I"⟩
def m_Board_digestWord : jM := ("SharingRoom$Board", prog_2_method_8_code, 2, (some FieldType.int), "digestWord", [])
def t_Board_digestWord : List (Nat × Instr × Nat) := [(0, .aload_n 0, 1), (1, .getfield 16, 3), (4, .aload_n 0, 1), (5, .getfield 9, 3), (8, .aload_n 0, 1), (9, .getfield 20, 3), (12, .iload_n 1, 1), (13, .invokevirtual 28, 3), (16, .ireturn, 1)]
set_option maxRecDepth 100000 in
theorem k_Board_digestWord : jDec m_Board_digestWord.2.1 t_Board_digestWord := by decide +kernel
def y_Sha_wordOf : MethodName := ⟨"SharingRoom$Sha256", "wordOf", "([BII)I"⟩
def m_Sha_wordOf : jM := ("SharingRoom$Sha256", prog_11_method_2_code, 6, (some FieldType.int), "wordOf", [])
def t_Sha_wordOf : List (Nat × Instr × Nat) := [(0, .getstatic 19, 3), (3, .iconst 0, 1), (4, .aload_n 0, 1), (5, .getfield 13, 3), (8, .iconst 0, 1), (9, .bipush 8, 2), (11, .invokestatic 22, 3), (14, .iload_n 2, 1), (15, .bipush 9, 2), (17, .iadd, 1), (18, .bipush 64, 2), (20, .iadd, 1), (21, .iconst 1, 1), (22, .isub, 1), (23, .bipush 64, 2), (25, .idiv, 1), (26, .istore 4, 2), (28, .iconst 0, 1), (29, .istore 5, 2), (31, .iload 5, 2), (33, .iload 4, 2), (35, .if_icmp .ge 23, 3), (38, .aload_n 0, 1), (39, .aload_n 1, 1), (40, .iload_n 2, 1), (41, .iload 5, 2), (43, .iload 4, 2), (45, .invokevirtual 28, 3), (48, .aload_n 0, 1), (49, .invokevirtual 32, 3), (52, .iinc 5 1, 3), (55, .goto (-24), 3), (58, .aload_n 0, 1), (59, .getfield 13, 3), (62, .iload_n 3, 1), (63, .iaload, 1), (64, .ireturn, 1)]
set_option maxRecDepth 100000 in
theorem k_Sha_wordOf : jDec m_Sha_wordOf.2.1 t_Sha_wordOf := by decide +kernel
def y_Sha_fillSchedule : MethodName := ⟨"SharingRoom$Sha256", "fillSchedule", "([BIII)V"⟩
def m_Sha_fillSchedule : jM := ("SharingRoom$Sha256", prog_11_method_3_code, 10, none, "fillSchedule", [])
def t_Sha_fillSchedule : List (Nat × Instr × Nat) := [(0, .iconst 0, 1), (1, .istore 5, 2), (3, .iload 5, 2), (5, .bipush 16, 2), (7, .if_icmp .ge 73, 3), (10, .iload_n 3, 1), (11, .bipush 64, 2), (13, .imul, 1), (14, .iconst 4, 1), (15, .iload 5, 2), (17, .imul, 1), (18, .iadd, 1), (19, .istore 6, 2), (21, .aload_n 0, 1), (22, .getfield 9, 3), (25, .iload 5, 2), (27, .aload_n 1, 1), (28, .iload_n 2, 1), (29, .iload 6, 2), (31, .invokestatic 35, 3), (34, .bipush 24, 2), (36, .ishl, 1), (37, .aload_n 1, 1), (38, .iload_n 2, 1), (39, .iload 6, 2), (41, .iconst 1, 1), (42, .iadd, 1), (43, .invokestatic 35, 3), (46, .bipush 16, 2), (48, .ishl, 1), (49, .ior, 1), (50, .aload_n 1, 1), (51, .iload_n 2, 1), (52, .iload 6, 2), (54, .iconst 2, 1), (55, .iadd, 1), (56, .invokestatic 35, 3), (59, .bipush 8, 2), (61, .ishl, 1), (62, .ior, 1), (63, .aload_n 1, 1), (64, .iload_n 2, 1), (65, .iload 6, 2), (67, .iconst 3, 1), (68, .iadd, 1), (69, .invokestatic 35, 3), (72, .ior, 1), (73, .iastore, 1), (74, .iinc 5 1, 3), (77, .goto (-74), 3), (80, .iload_n 3, 1), (81, .iload 4, 2), (83, .iconst 1, 1), (84, .isub, 1), (85, .if_icmp .ne 14, 3), (88, .aload_n 0, 1), (89, .getfield 9, 3), (92, .bipush 15, 2), (94, .iload_n 2, 1), (95, .bipush 8, 2), (97, .imul, 1), (98, .iastore, 1), (99, .bipush 16, 2), (101, .istore 5, 2), (103, .iload 5, 2), (105, .bipush 64, 2), (107, .if_icmp .ge 111, 3), (110, .aload_n 0, 1), (111, .getfield 9, 3), (114, .iload 5, 2), (116, .bipush 15, 2), (118, .isub, 1), (119, .iaload, 1), (120, .istore 6, 2), (122, .aload_n 0, 1), (123, .getfield 9, 3), (126, .iload 5, 2), (128, .iconst 2, 1), (129, .isub, 1), (130, .iaload, 1), (131, .istore 7, 2), (133, .iload 6, 2), (135, .bipush 7, 2), (137, .invokestatic 39, 3), (140, .iload 6, 2), (142, .bipush 18, 2), (144, .invokestatic 39, 3), (147, .ixor, 1), (148, .iload 6, 2), (150, .iconst 3, 1), (151, .iushr, 1), (152, .ixor, 1), (153, .istore 8, 2), (155, .iload 7, 2), (157, .bipush 17, 2), (159, .invokestatic 39, 3), (162, .iload 7, 2), (164, .bipush 19, 2), (166, .invokestatic 39, 3), (169, .ixor, 1), (170, .iload 7, 2), (172, .bipush 10, 2), (174, .iushr, 1), (175, .ixor, 1), (176, .istore 9, 2), (178, .aload_n 0, 1), (179, .getfield 9, 3), (182, .iload 5, 2), (184, .aload_n 0, 1), (185, .getfield 9, 3), (188, .iload 5, 2), (190, .bipush 16, 2), (192, .isub, 1), (193, .iaload, 1), (194, .iload 8, 2), (196, .iadd, 1), (197, .aload_n 0, 1), (198, .getfield 9, 3), (201, .iload 5, 2), (203, .bipush 7, 2), (205, .isub, 1), (206, .iaload, 1), (207, .iadd, 1), (208, .iload 9, 2), (210, .iadd, 1), (211, .iastore, 1), (212, .iinc 5 1, 3), (215, .goto (-112), 3), (218, .return_, 1)]
set_option maxRecDepth 100000 in
theorem k_Sha_fillSchedule : jDec m_Sha_fillSchedule.2.1 t_Sha_fillSchedule := by decide +kernel
def y_Sha_padded : MethodName := ⟨"SharingRoom$Sha256", "padded", "([BII)I"⟩
def m_Sha_padded : jM := ("SharingRoom$Sha256", prog_11_method_5_code, 3, (some FieldType.int), "padded", [])
def t_Sha_padded : List (Nat × Instr × Nat) := [(0, .iload_n 2, 1), (1, .iload_n 1, 1), (2, .if_icmp .ge 17, 3), (5, .iload_n 2, 1), (6, .aload_n 0, 1), (7, .arraylength, 1), (8, .if_icmp .ge 11, 3), (11, .aload_n 0, 1), (12, .iload_n 2, 1), (13, .baload, 1), (14, .sipush 255, 3), (17, .iand, 1), (18, .ireturn, 1), (19, .iload_n 2, 1), (20, .iload_n 1, 1), (21, .if_icmp .ne 9, 3), (24, .sipush 128, 3), (27, .goto 4, 3), (30, .iconst 0, 1), (31, .ireturn, 1)]
set_option maxRecDepth 100000 in
theorem k_Sha_padded : jDec m_Sha_padded.2.1 t_Sha_padded := by decide +kernel
def y_Sha_turn : MethodName := ⟨"SharingRoom$Sha256", "turn", "(II)I"⟩
def m_Sha_turn : jM := ("SharingRoom$Sha256", prog_11_method_6_code, 2, (some FieldType.int), "turn", [])
def t_Sha_turn : List (Nat × Instr × Nat) := [(0, .iload_n 0, 1), (1, .iload_n 1, 1), (2, .iushr, 1), (3, .iload_n 0, 1), (4, .bipush 32, 2), (6, .iload_n 1, 1), (7, .isub, 1), (8, .ishl, 1), (9, .ior, 1), (10, .ireturn, 1)]
set_option maxRecDepth 100000 in
theorem k_Sha_turn : jDec m_Sha_turn.2.1 t_Sha_turn := by decide +kernel
def y_Sha_mix : MethodName := ⟨"SharingRoom$Sha256", "mix", "()V"⟩
def m_Sha_mix : jM := ("SharingRoom$Sha256", prog_11_method_4_code, 10, none, "mix", [])
def t_Sha_mix : List (Nat × Instr × Nat) := [(0, .aload_n 0, 1), (1, .getfield 13, 3), (4, .iconst 0, 1), (5, .aload_n 0, 1), (6, .getfield 16, 3), (9, .iconst 0, 1), (10, .bipush 8, 2), (12, .invokestatic 22, 3), (15, .iconst 0, 1), (16, .istore_n 1, 1), (17, .iload_n 1, 1), (18, .bipush 64, 2), (20, .if_icmp .ge 205, 3), (23, .aload_n 0, 1), (24, .getfield 16, 3), (27, .iconst 0, 1), (28, .iaload, 1), (29, .istore_n 2, 1), (30, .aload_n 0, 1), (31, .getfield 16, 3), (34, .iconst 4, 1), (35, .iaload, 1), (36, .istore_n 3, 1), (37, .iload_n 3, 1), (38, .aload_n 0, 1), (39, .getfield 16, 3), (42, .iconst 5, 1), (43, .iaload, 1), (44, .iand, 1), (45, .iload_n 3, 1), (46, .iconst (-1), 1), (47, .ixor, 1), (48, .aload_n 0, 1), (49, .getfield 16, 3), (52, .bipush 6, 2), (54, .iaload, 1), (55, .iand, 1), (56, .ixor, 1), (57, .istore 4, 2), (59, .iload_n 2, 1), (60, .aload_n 0, 1), (61, .getfield 16, 3), (64, .iconst 1, 1), (65, .iaload, 1), (66, .iand, 1), (67, .iload_n 2, 1), (68, .aload_n 0, 1), (69, .getfield 16, 3), (72, .iconst 2, 1), (73, .iaload, 1), (74, .iand, 1), (75, .ixor, 1), (76, .aload_n 0, 1), (77, .getfield 16, 3), (80, .iconst 1, 1), (81, .iaload, 1), (82, .aload_n 0, 1), (83, .getfield 16, 3), (86, .iconst 2, 1), (87, .iaload, 1), (88, .iand, 1), (89, .ixor, 1), (90, .istore 5, 2), (92, .iload_n 2, 1), (93, .iconst 2, 1), (94, .invokestatic 39, 3), (97, .iload_n 2, 1), (98, .bipush 13, 2), (100, .invokestatic 39, 3), (103, .ixor, 1), (104, .iload_n 2, 1), (105, .bipush 22, 2), (107, .invokestatic 39, 3), (110, .ixor, 1), (111, .istore 6, 2), (113, .iload_n 3, 1), (114, .bipush 6, 2), (116, .invokestatic 39, 3), (119, .iload_n 3, 1), (120, .bipush 11, 2), (122, .invokestatic 39, 3), (125, .ixor, 1), (126, .iload_n 3, 1), (127, .bipush 25, 2), (129, .invokestatic 39, 3), (132, .ixor, 1), (133, .istore 7, 2), (135, .aload_n 0, 1), (136, .getfield 16, 3), (139, .bipush 7, 2), (141, .iaload, 1), (142, .iload 7, 2), (144, .iadd, 1), (145, .iload 4, 2), (147, .iadd, 1), (148, .getstatic 43, 3), (151, .iload_n 1, 1), (152, .iaload, 1), (153, .iadd, 1), (154, .aload_n 0, 1), (155, .getfield 9, 3), (158, .iload_n 1, 1), (159, .iaload, 1), (160, .iadd, 1), (161, .istore 8, 2), (163, .bipush 7, 2), (165, .istore 9, 2), (167, .iload 9, 2), (169, .ifCond .le 25, 3), (172, .aload_n 0, 1), (173, .getfield 16, 3), (176, .iload 9, 2), (178, .aload_n 0, 1), (179, .getfield 16, 3), (182, .iload 9, 2), (184, .iconst 1, 1), (185, .isub, 1), (186, .iaload, 1), (187, .iastore, 1), (188, .iinc 9 (-1), 3), (191, .goto (-24), 3), (194, .aload_n 0, 1), (195, .getfield 16, 3), (198, .iconst 4, 1), (199, .dup2, 1), (200, .iaload, 1), (201, .iload 8, 2), (203, .iadd, 1), (204, .iastore, 1), (205, .aload_n 0, 1), (206, .getfield 16, 3), (209, .iconst 0, 1), (210, .iload 8, 2), (212, .iload 6, 2), (214, .iadd, 1), (215, .iload 5, 2), (217, .iadd, 1), (218, .iastore, 1), (219, .iinc 1 1, 3), (222, .goto (-205), 3), (225, .iconst 0, 1), (226, .istore_n 1, 1), (227, .iload_n 1, 1), (228, .bipush 8, 2), (230, .if_icmp .ge 24, 3), (233, .aload_n 0, 1), (234, .getfield 13, 3), (237, .iload_n 1, 1), (238, .dup2, 1), (239, .iaload, 1), (240, .aload_n 0, 1), (241, .getfield 16, 3), (244, .iload_n 1, 1), (245, .iaload, 1), (246, .iadd, 1), (247, .iastore, 1), (248, .iinc 1 1, 3), (251, .goto (-24), 3), (254, .return_, 1)]
set_option maxRecDepth 100000 in
theorem k_Sha_mix : jDec m_Sha_mix.2.1 t_Sha_mix := by decide +kernel
def y_Law_recover : MethodName := ⟨"SharingRoomLaw", "recover", "(LSharingRoom;I[J)I"⟩
def m_Law_recover : jM := ("SharingRoomLaw", method_17_code, 4, (some FieldType.int), "recover", [(0, 9, 12, 19), (0, 9, 15, 13)])
def t_Law_recover : List (Nat × Instr × Nat) := [(0, .aload_n 2, 1), (1, .iconst 0, 1), (2, .aload_n 0, 1), (3, .iload_n 1, 1), (4, .invokevirtual 65, 3), (7, .i2l, 1), (8, .lastore, 1), (9, .goto 9, 3), (12, .astore_n 3, 1), (13, .iconst 1, 1), (14, .ireturn, 1), (15, .astore_n 3, 1), (16, .iconst 2, 1), (17, .ireturn, 1), (18, .iconst 0, 1), (19, .ireturn, 1)]
set_option maxRecDepth 100000 in
theorem k_Law_recover : jDec m_Law_recover.2.1 t_Law_recover := by decide +kernel
def y_SR_recover : MethodName := ⟨"SharingRoom", "recover", "(I)I"⟩
def m_SR_recover : jM := ("SharingRoom", prog_1_method_21_code, 2, (some FieldType.int), "recover", [])
def t_SR_recover : List (Nat × Instr × Nat) := [(0, .aload_n 0, 1), (1, .invokevirtual 204, 3), (4, .aload_n 0, 1), (5, .iload_n 1, 1), (6, .invokevirtual 207, 3), (9, .aload_n 0, 1), (10, .getfield 43, 3), (13, .iload_n 1, 1), (14, .invokevirtual 210, 3), (17, .ireturn, 1)]
set_option maxRecDepth 100000 in
theorem k_SR_recover : jDec m_SR_recover.2.1 t_SR_recover := by decide +kernel
def y_SR_needDone : MethodName := ⟨"SharingRoom", "needDone", "()V"⟩
def m_SR_needDone : jM := ("SharingRoom", prog_1_method_25_code, 1, none, "needDone", [])
def t_SR_needDone : List (Nat × Instr × Nat) := [(0, .aload_n 0, 1), (1, .getfield 43, 3), (4, .invokevirtual 145, 3), (7, .iconst 2, 1), (8, .if_icmp .eq 13, 3), (11, .new 70, 3), (14, .dup, 1), (15, .ldc 226, 2), (17, .invokespecial 74, 3), (20, .athrow, 1), (21, .return_, 1)]
set_option maxRecDepth 100000 in
theorem k_SR_needDone : jDec m_SR_needDone.2.1 t_SR_needDone := by decide +kernel
def y_SR_needEnough : MethodName := ⟨"SharingRoom", "needEnough", "(I)V"⟩
def m_SR_needEnough : jM := ("SharingRoom", prog_1_method_29_code, 2, none, "needEnough", [])
def t_SR_needEnough : List (Nat × Instr × Nat) := [(0, .aload_n 0, 1), (1, .getfield 43, 3), (4, .iload_n 1, 1), (5, .invokevirtual 240, 3), (8, .ifCond .ne 13, 3), (11, .new 47, 3), (14, .dup, 1), (15, .ldc 243, 2), (17, .invokespecial 51, 3), (20, .athrow, 1), (21, .return_, 1)]
set_option maxRecDepth 100000 in
theorem k_SR_needEnough : jDec m_SR_needEnough.2.1 t_SR_needEnough := by decide +kernel
def y_Room_isEnough : MethodName := ⟨"SharingRoom$Room", "isEnough", "(I)Z"⟩
def m_Room_isEnough : jM := ("SharingRoom$Room", prog_10_method_6_code, 2, (some FieldType.boolean), "isEnough", [])
def t_Room_isEnough : List (Nat × Instr × Nat) := [(0, .iload_n 1, 1), (1, .aload_n 0, 1), (2, .invokevirtual 62, 3), (5, .iconst (-1), 1), (6, .ixor, 1), (7, .iand, 1), (8, .ifCond .ne 18, 3), (11, .iload_n 1, 1), (12, .invokestatic 66, 3), (15, .aload_n 0, 1), (16, .getfield 59, 3), (19, .if_icmp .lt 7, 3), (22, .iconst 1, 1), (23, .goto 4, 3), (26, .iconst 0, 1), (27, .ireturn, 1)]
set_option maxRecDepth 100000 in
theorem k_Room_isEnough : jDec m_Room_isEnough.2.1 t_Room_isEnough := by decide +kernel
def y_Room_secretOf : MethodName := ⟨"SharingRoom$Room", "secretOf", "(I)I"⟩
def m_Room_secretOf : jM := ("SharingRoom$Room", prog_10_method_41_code, 2, (some FieldType.int), "secretOf", [])
def t_Room_secretOf : List (Nat × Instr × Nat) := [(0, .aload_n 0, 1), (1, .iload_n 1, 1), (2, .invokevirtual 266, 3), (5, .aload_n 0, 1), (6, .getfield 50, 3), (9, .iconst 0, 1), (10, .invokevirtual 258, 3), (13, .ireturn, 1)]
set_option maxRecDepth 100000 in
theorem k_Room_secretOf : jDec m_Room_secretOf.2.1 t_Room_secretOf := by decide +kernel
def y_Room_collectShares : MethodName := ⟨"SharingRoom$Room", "collectShares", "(I)V"⟩
def m_Room_collectShares : jM := ("SharingRoom$Room", prog_10_method_47_code, 3, none, "collectShares", [])
def t_Room_collectShares : List (Nat × Instr × Nat) := [(0, .aload_n 0, 1), (1, .getfield 50, 3), (4, .aload_n 0, 1), (5, .getfield 42, 3), (8, .invokevirtual 261, 3), (11, .iconst 1, 1), (12, .istore_n 2, 1), (13, .iload_n 2, 1), (14, .aload_n 0, 1), (15, .getfield 55, 3), (18, .if_icmp .gt 36, 3), (21, .iload_n 1, 1), (22, .iload_n 2, 1), (23, .invokestatic 130, 3), (26, .iand, 1), (27, .ifCond .eq 21, 3), (30, .aload_n 0, 1), (31, .getfield 50, 3), (34, .iload_n 2, 1), (35, .aload_n 0, 1), (36, .iload_n 2, 1), (37, .invokevirtual 96, 3), (40, .getfield 141, 3), (43, .iconst 0, 1), (44, .iaload, 1), (45, .invokevirtual 263, 3), (48, .iinc 2 1, 3), (51, .goto (-38), 3), (54, .return_, 1)]
set_option maxRecDepth 100000 in
theorem k_Room_collectShares : jDec m_Room_collectShares.2.1 t_Room_collectShares := by decide +kernel
def y_Law_refresh : MethodName := ⟨"SharingRoomLaw", "refresh", "(LSharingRoom;)I"⟩
def m_Law_refresh : jM := ("SharingRoomLaw", method_18_code, 2, (some FieldType.int), "refresh", [(0, 4, 7, 19)])
def t_Law_refresh : List (Nat × Instr × Nat) := [(0, .aload_n 0, 1), (1, .invokevirtual 68, 3), (4, .goto 6, 3), (7, .astore_n 1, 1), (8, .iconst 1, 1), (9, .ireturn, 1), (10, .iconst 0, 1), (11, .ireturn, 1)]
set_option maxRecDepth 100000 in
theorem k_Law_refresh : jDec m_Law_refresh.2.1 t_Law_refresh := by decide +kernel
def y_SR_refresh : MethodName := ⟨"SharingRoom", "refresh", "()V"⟩
def m_SR_refresh : jM := ("SharingRoom", prog_1_method_22_code, 1, none, "refresh", [])
def t_SR_refresh : List (Nat × Instr × Nat) := [(0, .aload_n 0, 1), (1, .invokevirtual 204, 3), (4, .aload_n 0, 1), (5, .getfield 43, 3), (8, .invokevirtual 213, 3), (11, .return_, 1)]
set_option maxRecDepth 100000 in
theorem k_SR_refresh : jDec m_SR_refresh.2.1 t_SR_refresh := by decide +kernel
def y_Room_renewShares : MethodName := ⟨"SharingRoom$Room", "renewShares", "()V"⟩
def m_Room_renewShares : jM := ("SharingRoom$Room", prog_10_method_42_code, 4, none, "renewShares", [])
def t_Room_renewShares : List (Nat × Instr × Nat) := [(0, .iconst 1, 1), (1, .istore_n 1, 1), (2, .iload_n 1, 1), (3, .aload_n 0, 1), (4, .getfield 55, 3), (7, .if_icmp .gt 74, 3), (10, .aload_n 0, 1), (11, .iload_n 1, 1), (12, .invokevirtual 96, 3), (15, .getfield 141, 3), (18, .iconst 0, 1), (19, .iaload, 1), (20, .istore_n 2, 1), (21, .iconst 1, 1), (22, .istore_n 3, 1), (23, .iload_n 3, 1), (24, .aload_n 0, 1), (25, .getfield 55, 3), (28, .if_icmp .gt 40, 3), (31, .aload_n 0, 1), (32, .iload_n 3, 1), (33, .invokevirtual 96, 3), (36, .invokevirtual 126, 3), (39, .ifCond .eq 23, 3), (42, .aload_n 0, 1), (43, .getfield 42, 3), (46, .iload_n 2, 1), (47, .aload_n 0, 1), (48, .iconst 0, 1), (49, .iload_n 3, 1), (50, .aload_n 0, 1), (51, .getfield 59, 3), (54, .iload_n 1, 1), (55, .invokevirtual 269, 3), (58, .invokevirtual 190, 3), (61, .istore_n 2, 1), (62, .iinc 3 1, 3), (65, .goto (-42), 3), (68, .aload_n 0, 1), (69, .getfield 24, 3), (72, .iload_n 1, 1), (73, .iload_n 2, 1), (74, .iastore, 1), (75, .iinc 1 1, 3), (78, .goto (-76), 3), (81, .aload_n 0, 1), (82, .invokevirtual 273, 3), (85, .return_, 1)]
set_option maxRecDepth 100000 in
theorem k_Room_renewShares : jDec m_Room_renewShares.2.1 t_Room_renewShares := by decide +kernel
def y_Room_dealtFrom : MethodName := ⟨"SharingRoom$Room", "dealtFrom", "(IIII)I"⟩
def m_Room_dealtFrom : jM := ("SharingRoom$Room", prog_10_method_45_code, 5, (some FieldType.int), "dealtFrom", [])
def t_Room_dealtFrom : List (Nat × Instr × Nat) := [(0, .aload_n 0, 1), (1, .getfield 42, 3), (4, .iload_n 1, 1), (5, .aload_n 0, 1), (6, .iload_n 2, 1), (7, .invokevirtual 96, 3), (10, .getfield 101, 3), (13, .iconst 0, 1), (14, .aaload, 1), (15, .iload_n 3, 1), (16, .iload 4, 2), (18, .invokevirtual 292, 3), (21, .ireturn, 1)]
set_option maxRecDepth 100000 in
theorem k_Room_dealtFrom : jDec m_Room_dealtFrom.2.1 t_Room_dealtFrom := by decide +kernel
def y_Room_takeNewShares : MethodName := ⟨"SharingRoom$Room", "takeNewShares", "()V"⟩
def m_Room_takeNewShares : jM := ("SharingRoom$Room", prog_10_method_46_code, 2, none, "takeNewShares", [])
def t_Room_takeNewShares : List (Nat × Instr × Nat) := [(0, .iconst 1, 1), (1, .istore_n 1, 1), (2, .iload_n 1, 1), (3, .bipush 7, 2), (5, .if_icmp .gt 44, 3), (8, .aload_n 0, 1), (9, .iload_n 1, 1), (10, .invokevirtual 96, 3), (13, .invokevirtual 296, 3), (16, .aload_n 0, 1), (17, .iload_n 1, 1), (18, .invokevirtual 96, 3), (21, .getfield 141, 3), (24, .iconst 0, 1), (25, .aload_n 0, 1), (26, .getfield 24, 3), (29, .iload_n 1, 1), (30, .iaload, 1), (31, .iastore, 1), (32, .aload_n 0, 1), (33, .iload_n 1, 1), (34, .invokevirtual 96, 3), (37, .getfield 141, 3), (40, .iconst 1, 1), (41, .iconst 0, 1), (42, .iastore, 1), (43, .iinc 1 1, 3), (46, .goto (-44), 3), (49, .return_, 1)]
set_option maxRecDepth 100000 in
theorem k_Room_takeNewShares : jDec m_Room_takeNewShares.2.1 t_Room_takeNewShares := by decide +kernel
def y_Law_handOn : MethodName := ⟨"SharingRoomLaw", "handOn", "(LSharingRoom;III)I"⟩
def m_Law_handOn : jM := ("SharingRoomLaw", method_19_code, 5, (some FieldType.int), "handOn", [(0, 7, 10, 19), (0, 7, 14, 13)])
def t_Law_handOn : List (Nat × Instr × Nat) := [(0, .aload_n 0, 1), (1, .iload_n 1, 1), (2, .iload_n 2, 1), (3, .iload_n 3, 1), (4, .invokevirtual 71, 3), (7, .goto 11, 3), (10, .astore 4, 2), (12, .iconst 1, 1), (13, .ireturn, 1), (14, .astore 4, 2), (16, .iconst 2, 1), (17, .ireturn, 1), (18, .iconst 0, 1), (19, .ireturn, 1)]
set_option maxRecDepth 100000 in
theorem k_Law_handOn : jDec m_Law_handOn.2.1 t_Law_handOn := by decide +kernel
def y_SR_handOn : MethodName := ⟨"SharingRoom", "handOn", "(III)V"⟩
def m_SR_handOn : jM := ("SharingRoom", prog_1_method_23_code, 4, none, "handOn", [])
def t_SR_handOn : List (Nat × Instr × Nat) := [(0, .aload_n 0, 1), (1, .invokevirtual 204, 3), (4, .aload_n 0, 1), (5, .iload_n 1, 1), (6, .invokevirtual 207, 3), (9, .iload_n 3, 1), (10, .iload_n 2, 1), (11, .invokestatic 97, 3), (14, .ifCond .ne 13, 3), (17, .new 47, 3), (20, .dup, 1), (21, .ldc 216, 2), (23, .invokespecial 51, 3), (26, .athrow, 1), (27, .aload_n 0, 1), (28, .getfield 43, 3), (31, .iload_n 1, 1), (32, .iload_n 2, 1), (33, .iload_n 3, 1), (34, .invokevirtual 218, 3), (37, .return_, 1)]
set_option maxRecDepth 100000 in
theorem k_SR_handOn : jDec m_SR_handOn.2.1 t_SR_handOn := by decide +kernel
def y_Room_handTo : MethodName := ⟨"SharingRoom$Room", "handTo", "(III)V"⟩
def m_Room_handTo : jM := ("SharingRoom$Room", prog_10_method_43_code, 7, none, "handTo", [])
def t_Room_handTo : List (Nat × Instr × Nat) := [(0, .aload_n 0, 1), (1, .iload_n 1, 1), (2, .invokevirtual 266, 3), (5, .aload_n 0, 1), (6, .getfield 24, 3), (9, .iconst 0, 1), (10, .invokestatic 276, 3), (13, .iconst 0, 1), (14, .istore 4, 2), (16, .iconst 1, 1), (17, .istore 5, 2), (19, .iload 5, 2), (21, .aload_n 0, 1), (22, .getfield 55, 3), (25, .if_icmp .gt 44, 3), (28, .iload_n 1, 1), (29, .iload 5, 2), (31, .invokestatic 130, 3), (34, .iand, 1), (35, .ifCond .eq 28, 3), (38, .aload_n 0, 1), (39, .getfield 50, 3), (42, .iload 4, 2), (44, .iconst 0, 1), (45, .invokevirtual 282, 3), (48, .istore 6, 2), (50, .iinc 4 1, 3), (53, .aload_n 0, 1), (54, .iload 5, 2), (56, .iload 6, 2), (58, .iload_n 2, 1), (59, .iload_n 3, 1), (60, .invokevirtual 285, 3), (63, .iinc 5 1, 3), (66, .goto (-47), 3), (69, .aload_n 0, 1), (70, .iload_n 3, 1), (71, .putfield 55, 3), (74, .aload_n 0, 1), (75, .iload_n 2, 1), (76, .putfield 59, 3), (79, .aload_n 0, 1), (80, .invokevirtual 273, 3), (83, .return_, 1)]
set_option maxRecDepth 100000 in
theorem k_Room_handTo : jDec m_Room_handTo.2.1 t_Room_handTo := by decide +kernel
def y_Room_addDealt : MethodName := ⟨"SharingRoom$Room", "addDealt", "(IIII)V"⟩
def m_Room_addDealt : jM := ("SharingRoom$Room", prog_10_method_44_code, 7, none, "addDealt", [])
def t_Room_addDealt : List (Nat × Instr × Nat) := [(0, .iconst 1, 1), (1, .istore 5, 2), (3, .iload 5, 2), (5, .iload 4, 2), (7, .if_icmp .gt 60, 3), (10, .aload_n 0, 1), (11, .aload_n 0, 1), (12, .iload_n 1, 1), (13, .invokevirtual 96, 3), (16, .getfield 141, 3), (19, .iconst 0, 1), (20, .iaload, 1), (21, .iload_n 1, 1), (22, .iload_n 3, 1), (23, .iload 5, 2), (25, .invokevirtual 269, 3), (28, .istore 6, 2), (30, .aload_n 0, 1), (31, .getfield 24, 3), (34, .iload 5, 2), (36, .aload_n 0, 1), (37, .getfield 42, 3), (40, .aload_n 0, 1), (41, .getfield 24, 3), (44, .iload 5, 2), (46, .iaload, 1), (47, .aload_n 0, 1), (48, .getfield 42, 3), (51, .iload_n 2, 1), (52, .iload 6, 2), (54, .invokevirtual 289, 3), (57, .invokevirtual 190, 3), (60, .iastore, 1), (61, .iinc 5 1, 3), (64, .goto (-61), 3), (67, .return_, 1)]
set_option maxRecDepth 100000 in
theorem k_Room_addDealt : jDec m_Room_addDealt.2.1 t_Room_addDealt := by decide +kernel
def y_Mod_init : MethodName := ⟨"SharingRoomModel", "<init>", "()V"⟩
def m_Mod_init : jM := ("SharingRoomModel", prog_14_method_1_code, 3, none, "<init>", [])
def t_Mod_init_0 : List (Nat × Instr × Nat) := [(0, .aload_n 0, 1), (1, .invokespecial 1, 3), (4, .aload_n 0, 1), (5, .bipush 12, 2), (7, .newarray .int, 2), (9, .putfield 7, 3), (12, .aload_n 0, 1), (13, .bipush 12, 2), (15, .newarray .int, 2), (17, .putfield 13, 3), (20, .aload_n 0, 1), (21, .bipush 12, 2), (23, .newarray .int, 2), (25, .putfield 16, 3), (28, .aload_n 0, 1), (29, .sipush 1019, 3), (32, .newarray .int, 2), (34, .putfield 19, 3), (37, .aload_n 0, 1), (38, .bipush 31, 2), (40, .newarray .int, 2), (42, .putfield 22, 3), (45, .aload_n 0, 1), (46, .iconst 2, 1), (47, .newarray .int, 2), (49, .putfield 25, 3), (52, .aload_n 0, 1), (53, .bipush 49, 2), (55, .newarray .int, 2), (57, .putfield 28, 3), (60, .aload_n 0, 1), (61, .bipush 49, 2), (63, .newarray .int, 2), (65, .putfield 31, 3), (68, .aload_n 0, 1), (69, .bipush 49, 2), (71, .newarray .int, 2), (73, .putfield 34, 3), (76, .aload_n 0, 1), (77, .bipush 7, 2)]
set_option maxRecDepth 100000 in
theorem k_Mod_init_0 : jDec m_Mod_init.2.1 t_Mod_init_0 := by decide +kernel
def t_Mod_init_1 : List (Nat × Instr × Nat) := [(79, .newarray .int, 2), (81, .putfield 37, 3), (84, .aload_n 0, 1), (85, .bipush 7, 2), (87, .newarray .int, 2), (89, .putfield 40, 3), (92, .aload_n 0, 1), (93, .bipush 7, 2), (95, .newarray .int, 2), (97, .putfield 43, 3), (100, .aload_n 0, 1), (101, .bipush 49, 2), (103, .newarray .int, 2), (105, .putfield 46, 3), (108, .aload_n 0, 1), (109, .bipush 49, 2), (111, .newarray .int, 2), (113, .putfield 49, 3), (116, .aload_n 0, 1), (117, .bipush 49, 2), (119, .newarray .int, 2), (121, .putfield 52, 3), (124, .aload_n 0, 1), (125, .bipush 49, 2), (127, .newarray .int, 2), (129, .putfield 55, 3), (132, .aload_n 0, 1), (133, .bipush 49, 2), (135, .newarray .int, 2), (137, .putfield 58, 3), (140, .aload_n 0, 1), (141, .bipush 49, 2), (143, .newarray .int, 2), (145, .putfield 61, 3), (148, .aload_n 0, 1), (149, .bipush 7, 2), (151, .newarray .int, 2), (153, .putfield 64, 3), (156, .aload_n 0, 1), (157, .bipush 7, 2)]
set_option maxRecDepth 100000 in
theorem k_Mod_init_1 : jDec m_Mod_init.2.1 t_Mod_init_1 := by decide +kernel
def t_Mod_init_2 : List (Nat × Instr × Nat) := [(159, .newarray .int, 2), (161, .putfield 67, 3), (164, .aload_n 0, 1), (165, .bipush 7, 2), (167, .newarray .int, 2), (169, .putfield 70, 3), (172, .aload_n 0, 1), (173, .sipush 1100, 3), (176, .newarray .int, 2), (178, .putfield 73, 3), (181, .aload_n 0, 1), (182, .bipush 32, 2), (184, .newarray .int, 2), (186, .dup, 1), (187, .iconst 0, 1), (188, .ldc 76, 2), (190, .iastore, 1), (191, .dup, 1), (192, .iconst 1, 1), (193, .ldc 77, 2), (195, .iastore, 1), (196, .dup, 1), (197, .iconst 2, 1), (198, .ldc 78, 2), (200, .iastore, 1), (201, .dup, 1), (202, .iconst 3, 1), (203, .ldc 79, 2), (205, .iastore, 1), (206, .dup, 1), (207, .iconst 4, 1), (208, .ldc 80, 2), (210, .iastore, 1), (211, .dup, 1), (212, .iconst 5, 1), (213, .ldc 81, 2), (215, .iastore, 1), (216, .dup, 1), (217, .bipush 6, 2), (219, .ldc 82, 2)]
set_option maxRecDepth 100000 in
theorem k_Mod_init_2 : jDec m_Mod_init.2.1 t_Mod_init_2 := by decide +kernel
def t_Mod_init_3 : List (Nat × Instr × Nat) := [(221, .iastore, 1), (222, .dup, 1), (223, .bipush 7, 2), (225, .ldc 83, 2), (227, .iastore, 1), (228, .dup, 1), (229, .bipush 8, 2), (231, .ldc 84, 2), (233, .iastore, 1), (234, .dup, 1), (235, .bipush 9, 2), (237, .ldc 85, 2), (239, .iastore, 1), (240, .dup, 1), (241, .bipush 10, 2), (243, .ldc 86, 2), (245, .iastore, 1), (246, .dup, 1), (247, .bipush 11, 2), (249, .ldc 87, 2), (251, .iastore, 1), (252, .dup, 1), (253, .bipush 12, 2), (255, .ldc 88, 2), (257, .iastore, 1), (258, .dup, 1), (259, .bipush 13, 2), (261, .ldc 89, 2), (263, .iastore, 1), (264, .dup, 1), (265, .bipush 14, 2), (267, .ldc 90, 2), (269, .iastore, 1), (270, .dup, 1), (271, .bipush 15, 2), (273, .ldc 91, 2), (275, .iastore, 1), (276, .dup, 1), (277, .bipush 16, 2), (279, .ldc 92, 2)]
set_option maxRecDepth 100000 in
theorem k_Mod_init_3 : jDec m_Mod_init.2.1 t_Mod_init_3 := by decide +kernel
def t_Mod_init_4 : List (Nat × Instr × Nat) := [(281, .iastore, 1), (282, .dup, 1), (283, .bipush 17, 2), (285, .ldc 93, 2), (287, .iastore, 1), (288, .dup, 1), (289, .bipush 18, 2), (291, .ldc 94, 2), (293, .iastore, 1), (294, .dup, 1), (295, .bipush 19, 2), (297, .ldc 95, 2), (299, .iastore, 1), (300, .dup, 1), (301, .bipush 20, 2), (303, .ldc 96, 2), (305, .iastore, 1), (306, .dup, 1), (307, .bipush 21, 2), (309, .ldc 97, 2), (311, .iastore, 1), (312, .dup, 1), (313, .bipush 22, 2), (315, .ldc 98, 2), (317, .iastore, 1), (318, .dup, 1), (319, .bipush 23, 2), (321, .ldc 99, 2), (323, .iastore, 1), (324, .dup, 1), (325, .bipush 24, 2), (327, .ldc 100, 2), (329, .iastore, 1), (330, .dup, 1), (331, .bipush 25, 2), (333, .ldc 101, 2), (335, .iastore, 1), (336, .dup, 1), (337, .bipush 26, 2), (339, .ldc 102, 2)]
set_option maxRecDepth 100000 in
theorem k_Mod_init_4 : jDec m_Mod_init.2.1 t_Mod_init_4 := by decide +kernel
def t_Mod_init_5 : List (Nat × Instr × Nat) := [(341, .iastore, 1), (342, .dup, 1), (343, .bipush 27, 2), (345, .ldc 103, 2), (347, .iastore, 1), (348, .dup, 1), (349, .bipush 28, 2), (351, .ldc 104, 2), (353, .iastore, 1), (354, .dup, 1), (355, .bipush 29, 2), (357, .ldc 105, 2), (359, .iastore, 1), (360, .dup, 1), (361, .bipush 30, 2), (363, .ldc 106, 2), (365, .iastore, 1), (366, .dup, 1), (367, .bipush 31, 2), (369, .ldc 107, 2), (371, .iastore, 1), (372, .putfield 108, 3), (375, .aload_n 0, 1), (376, .bipush 32, 2), (378, .newarray .int, 2), (380, .dup, 1), (381, .iconst 0, 1), (382, .ldc 111, 2), (384, .iastore, 1), (385, .dup, 1), (386, .iconst 1, 1), (387, .ldc 112, 2), (389, .iastore, 1), (390, .dup, 1), (391, .iconst 2, 1), (392, .ldc 113, 2), (394, .iastore, 1), (395, .dup, 1), (396, .iconst 3, 1), (397, .ldc 114, 2)]
set_option maxRecDepth 100000 in
theorem k_Mod_init_5 : jDec m_Mod_init.2.1 t_Mod_init_5 := by decide +kernel
def t_Mod_init_6 : List (Nat × Instr × Nat) := [(399, .iastore, 1), (400, .dup, 1), (401, .iconst 4, 1), (402, .ldc 115, 2), (404, .iastore, 1), (405, .dup, 1), (406, .iconst 5, 1), (407, .ldc 116, 2), (409, .iastore, 1), (410, .dup, 1), (411, .bipush 6, 2), (413, .ldc 117, 2), (415, .iastore, 1), (416, .dup, 1), (417, .bipush 7, 2), (419, .ldc 118, 2), (421, .iastore, 1), (422, .dup, 1), (423, .bipush 8, 2), (425, .ldc 119, 2), (427, .iastore, 1), (428, .dup, 1), (429, .bipush 9, 2), (431, .ldc 120, 2), (433, .iastore, 1), (434, .dup, 1), (435, .bipush 10, 2), (437, .ldc 121, 2), (439, .iastore, 1), (440, .dup, 1), (441, .bipush 11, 2), (443, .ldc 122, 2), (445, .iastore, 1), (446, .dup, 1), (447, .bipush 12, 2), (449, .ldc 123, 2), (451, .iastore, 1), (452, .dup, 1), (453, .bipush 13, 2), (455, .ldc 124, 2)]
set_option maxRecDepth 100000 in
theorem k_Mod_init_6 : jDec m_Mod_init.2.1 t_Mod_init_6 := by decide +kernel
def t_Mod_init_7 : List (Nat × Instr × Nat) := [(457, .iastore, 1), (458, .dup, 1), (459, .bipush 14, 2), (461, .ldc 125, 2), (463, .iastore, 1), (464, .dup, 1), (465, .bipush 15, 2), (467, .ldc 126, 2), (469, .iastore, 1), (470, .dup, 1), (471, .bipush 16, 2), (473, .ldc 127, 2), (475, .iastore, 1), (476, .dup, 1), (477, .bipush 17, 2), (479, .ldc 128, 2), (481, .iastore, 1), (482, .dup, 1), (483, .bipush 18, 2), (485, .ldc 129, 2), (487, .iastore, 1), (488, .dup, 1), (489, .bipush 19, 2), (491, .ldc 130, 2), (493, .iastore, 1), (494, .dup, 1), (495, .bipush 20, 2), (497, .ldc 131, 2), (499, .iastore, 1), (500, .dup, 1), (501, .bipush 21, 2), (503, .ldc 132, 2), (505, .iastore, 1), (506, .dup, 1), (507, .bipush 22, 2), (509, .ldc 133, 2), (511, .iastore, 1), (512, .dup, 1), (513, .bipush 23, 2), (515, .ldc 134, 2)]
set_option maxRecDepth 100000 in
theorem k_Mod_init_7 : jDec m_Mod_init.2.1 t_Mod_init_7 := by decide +kernel
def t_Mod_init_8 : List (Nat × Instr × Nat) := [(517, .iastore, 1), (518, .dup, 1), (519, .bipush 24, 2), (521, .ldc 135, 2), (523, .iastore, 1), (524, .dup, 1), (525, .bipush 25, 2), (527, .ldc 136, 2), (529, .iastore, 1), (530, .dup, 1), (531, .bipush 26, 2), (533, .ldc 137, 2), (535, .iastore, 1), (536, .dup, 1), (537, .bipush 27, 2), (539, .ldc 138, 2), (541, .iastore, 1), (542, .dup, 1), (543, .bipush 28, 2), (545, .ldc 139, 2), (547, .iastore, 1), (548, .dup, 1), (549, .bipush 29, 2), (551, .ldc 140, 2), (553, .iastore, 1), (554, .dup, 1), (555, .bipush 30, 2), (557, .ldc 141, 2), (559, .iastore, 1), (560, .dup, 1), (561, .bipush 31, 2), (563, .ldc 142, 2), (565, .iastore, 1), (566, .putfield 143, 3), (569, .aload_n 0, 1), (570, .bipush 8, 2), (572, .newarray .int, 2), (574, .putfield 146, 3), (577, .aload_n 0, 1), (578, .bipush 8, 2)]
set_option maxRecDepth 100000 in
theorem k_Mod_init_8 : jDec m_Mod_init.2.1 t_Mod_init_8 := by decide +kernel
def t_Mod_init_9 : List (Nat × Instr × Nat) := [(580, .newarray .int, 2), (582, .dup, 1), (583, .iconst 0, 1), (584, .ldc 149, 2), (586, .iastore, 1), (587, .dup, 1), (588, .iconst 1, 1), (589, .ldc 150, 2), (591, .iastore, 1), (592, .dup, 1), (593, .iconst 2, 1), (594, .ldc 151, 2), (596, .iastore, 1), (597, .dup, 1), (598, .iconst 3, 1), (599, .ldc 152, 2), (601, .iastore, 1), (602, .dup, 1), (603, .iconst 4, 1), (604, .ldc 153, 2), (606, .iastore, 1), (607, .dup, 1), (608, .iconst 5, 1), (609, .ldc 154, 2), (611, .iastore, 1), (612, .dup, 1), (613, .bipush 6, 2), (615, .ldc 155, 2), (617, .iastore, 1), (618, .dup, 1), (619, .bipush 7, 2), (621, .ldc 156, 2), (623, .iastore, 1), (624, .putfield 157, 3), (627, .aload_n 0, 1), (628, .bipush 64, 2), (630, .newarray .int, 2), (632, .putfield 160, 3), (635, .aload_n 0, 1), (636, .bipush 8, 2)]
set_option maxRecDepth 100000 in
theorem k_Mod_init_9 : jDec m_Mod_init.2.1 t_Mod_init_9 := by decide +kernel
def t_Mod_init_10 : List (Nat × Instr × Nat) := [(638, .newarray .int, 2), (640, .putfield 163, 3), (643, .iconst 1, 1), (644, .istore_n 1, 1), (645, .iconst 0, 1), (646, .istore_n 2, 1), (647, .iload_n 2, 1), (648, .sipush 1019, 3), (651, .if_icmp .ge 24, 3), (654, .aload_n 0, 1), (655, .getfield 19, 3), (658, .iload_n 2, 1), (659, .iload_n 1, 1), (660, .iastore, 1), (661, .iload_n 1, 1), (662, .iconst 4, 1), (663, .imul, 1), (664, .sipush 2039, 3), (667, .irem, 1), (668, .istore_n 1, 1), (669, .iinc 2 1, 3), (672, .goto (-25), 3), (675, .aload_n 0, 1), (676, .getfield 22, 3), (679, .iconst 0, 1), (680, .sipush 4000, 3), (683, .iastore, 1), (684, .aload_n 0, 1), (685, .getfield 22, 3), (688, .iconst 1, 1), (689, .sipush 140, 3), (692, .iastore, 1), (693, .iconst 2, 1), (694, .istore_n 2, 1), (695, .iload_n 2, 1), (696, .bipush 31, 2), (698, .if_icmp .ge 26, 3), (701, .aload_n 0, 1), (702, .getfield 22, 3), (705, .iload_n 2, 1)]
set_option maxRecDepth 100000 in
theorem k_Mod_init_10 : jDec m_Mod_init.2.1 t_Mod_init_10 := by decide +kernel
def t_Mod_init_11 : List (Nat × Instr × Nat) := [(706, .aload_n 0, 1), (707, .getfield 22, 3), (710, .iload_n 2, 1), (711, .iconst 1, 1), (712, .isub, 1), (713, .iaload, 1), (714, .invokestatic 166, 3), (717, .iastore, 1), (718, .iinc 2 1, 3), (721, .goto (-26), 3), (724, .aload_n 0, 1), (725, .getfield 19, 3), (728, .aload_n 0, 1), (729, .getfield 25, 3), (732, .iconst 0, 1), (733, .iaload, 1), (734, .iaload, 1), (735, .bipush 9, 2), (737, .if_icmp .eq 16, 3), (740, .aload_n 0, 1), (741, .getfield 25, 3), (744, .iconst 0, 1), (745, .dup2, 1), (746, .iaload, 1), (747, .iconst 1, 1), (748, .iadd, 1), (749, .iastore, 1), (750, .goto (-26), 3), (753, .aload_n 0, 1), (754, .getfield 22, 3), (757, .aload_n 0, 1), (758, .getfield 25, 3), (761, .iconst 1, 1), (762, .iaload, 1), (763, .iaload, 1), (764, .sipush 1362, 3), (767, .if_icmp .eq 16, 3), (770, .aload_n 0, 1), (771, .getfield 25, 3), (774, .iconst 1, 1)]
set_option maxRecDepth 100000 in
theorem k_Mod_init_11 : jDec m_Mod_init.2.1 t_Mod_init_11 := by decide +kernel
def t_Mod_init_12 : List (Nat × Instr × Nat) := [(775, .dup2, 1), (776, .iaload, 1), (777, .iconst 1, 1), (778, .iadd, 1), (779, .iastore, 1), (780, .goto (-27), 3), (783, .return_, 1)]
set_option maxRecDepth 100000 in
theorem k_Mod_init_12 : jDec m_Mod_init.2.1 t_Mod_init_12 := by decide +kernel
