section
-- ===== PART A: goes FIRST, ahead of the names: the tables' words, and 'selects' of the private methods out of them =====
/-- a private method of a class that the tables say can be made, by its rows of tables_1 -/
def lw_okq (q : MethodName × Nat) : Prop := (q.1.cls ≠ "java/lang/invoke/MethodHandle" ∧ q.1.cls ≠ "java/lang/invoke/VarHandle") ∧ Cond.instantiable q.1.cls q.2 ∈ tables_1 ∧ Cond.privateMethod q.1 ∈ tables_1 ∧ Cond.instanceMethod q.1 ∈ tables_1
theorem lw_p0 : lw_okq (⟨"SharingRoom$Room", "everybody", "()I"⟩, 15) := ⟨⟨by decide +kernel, by decide +kernel⟩, List.mem_of_getElem? (i := 82) (by decide +kernel), List.mem_of_getElem? (i := 324) (by decide +kernel), List.mem_of_getElem? (i := 325) (by decide +kernel)⟩
theorem lw_p1 : lw_okq (⟨"SharingRoom$Room", "party", "(I)LSharingRoom$Party;"⟩, 15) := ⟨⟨by decide +kernel, by decide +kernel⟩, List.mem_of_getElem? (i := 82) (by decide +kernel), List.mem_of_getElem? (i := 340) (by decide +kernel), List.mem_of_getElem? (i := 341) (by decide +kernel)⟩
theorem lw_p2 : lw_okq (⟨"java/lang/Throwable", "fillInStackTrace", "(I)Ljava/lang/Throwable;"⟩, 6) := ⟨⟨by decide +kernel, by decide +kernel⟩, List.mem_of_getElem? (i := 421) (by decide +kernel), List.mem_of_getElem? (i := 419) (by decide +kernel), List.mem_of_getElem? (i := 420) (by decide +kernel)⟩
theorem lw_p3 : lw_okq (⟨"SharingRoom", "needParty", "(I)V"⟩, 3) := ⟨⟨by decide +kernel, by decide +kernel⟩, List.mem_of_getElem? (i := 25) (by decide +kernel), List.mem_of_getElem? (i := 577) (by decide +kernel), List.mem_of_getElem? (i := 578) (by decide +kernel)⟩
theorem lw_p4 : lw_okq (⟨"SharingRoom", "needCoefficient", "(I)V"⟩, 3) := ⟨⟨by decide +kernel, by decide +kernel⟩, List.mem_of_getElem? (i := 25) (by decide +kernel), List.mem_of_getElem? (i := 586) (by decide +kernel), List.mem_of_getElem? (i := 587) (by decide +kernel)⟩
theorem lw_p5 : lw_okq (⟨"SharingRoom", "needBeforeRounds", "()V"⟩, 3) := ⟨⟨by decide +kernel, by decide +kernel⟩, List.mem_of_getElem? (i := 25) (by decide +kernel), List.mem_of_getElem? (i := 613) (by decide +kernel), List.mem_of_getElem? (i := 614) (by decide +kernel)⟩
theorem lw_p6 : lw_okq (⟨"SharingRoom$Room", "dealAll", "()V"⟩, 15) := ⟨⟨by decide +kernel, by decide +kernel⟩, List.mem_of_getElem? (i := 82) (by decide +kernel), List.mem_of_getElem? (i := 655) (by decide +kernel), List.mem_of_getElem? (i := 656) (by decide +kernel)⟩
theorem lw_p7 : lw_okq (⟨"SharingRoom$Room", "deal", "(I)V"⟩, 15) := ⟨⟨by decide +kernel, by decide +kernel⟩, List.mem_of_getElem? (i := 82) (by decide +kernel), List.mem_of_getElem? (i := 663) (by decide +kernel), List.mem_of_getElem? (i := 664) (by decide +kernel)⟩
theorem lw_p8 : lw_okq (⟨"SharingRoom$Room", "dealtNumber", "(III)I"⟩, 15) := ⟨⟨by decide +kernel, by decide +kernel⟩, List.mem_of_getElem? (i := 82) (by decide +kernel), List.mem_of_getElem? (i := 700) (by decide +kernel), List.mem_of_getElem? (i := 701) (by decide +kernel)⟩
theorem lw_p9 : lw_okq (⟨"SharingRoom$Room", "complainAll", "()V"⟩, 15) := ⟨⟨by decide +kernel, by decide +kernel⟩, List.mem_of_getElem? (i := 82) (by decide +kernel), List.mem_of_getElem? (i := 712) (by decide +kernel), List.mem_of_getElem? (i := 713) (by decide +kernel)⟩
theorem lw_p10 : lw_okq (⟨"SharingRoom$Room", "complain", "(I)V"⟩, 15) := ⟨⟨by decide +kernel, by decide +kernel⟩, List.mem_of_getElem? (i := 82) (by decide +kernel), List.mem_of_getElem? (i := 716) (by decide +kernel), List.mem_of_getElem? (i := 717) (by decide +kernel)⟩
theorem lw_p11 : lw_okq (⟨"SharingRoom$Room", "fits", "(IIII)Z"⟩, 15) := ⟨⟨by decide +kernel, by decide +kernel⟩, List.mem_of_getElem? (i := 82) (by decide +kernel), List.mem_of_getElem? (i := 720) (by decide +kernel), List.mem_of_getElem? (i := 721) (by decide +kernel)⟩
theorem lw_p12 : lw_okq (⟨"SharingRoom$Room", "answerAll", "()V"⟩, 15) := ⟨⟨by decide +kernel, by decide +kernel⟩, List.mem_of_getElem? (i := 82) (by decide +kernel), List.mem_of_getElem? (i := 731) (by decide +kernel), List.mem_of_getElem? (i := 732) (by decide +kernel)⟩
theorem lw_p13 : lw_okq (⟨"SharingRoom$Room", "answer", "(I)V"⟩, 15) := ⟨⟨by decide +kernel, by decide +kernel⟩, List.mem_of_getElem? (i := 82) (by decide +kernel), List.mem_of_getElem? (i := 735) (by decide +kernel), List.mem_of_getElem? (i := 736) (by decide +kernel)⟩
theorem lw_p14 : lw_okq (⟨"SharingRoom$Room", "writeNumbers", "(III)V"⟩, 15) := ⟨⟨by decide +kernel, by decide +kernel⟩, List.mem_of_getElem? (i := 82) (by decide +kernel), List.mem_of_getElem? (i := 744) (by decide +kernel), List.mem_of_getElem? (i := 745) (by decide +kernel)⟩
theorem lw_p15 : lw_okq (⟨"SharingRoom$Room", "judgeAll", "()V"⟩, 15) := ⟨⟨by decide +kernel, by decide +kernel⟩, List.mem_of_getElem? (i := 82) (by decide +kernel), List.mem_of_getElem? (i := 748) (by decide +kernel), List.mem_of_getElem? (i := 749) (by decide +kernel)⟩
def lw_privs_1 : List (MethodName × Nat) := [(⟨"SharingRoom$Room", "everybody", "()I"⟩, 15), (⟨"SharingRoom$Room", "party", "(I)LSharingRoom$Party;"⟩, 15), (⟨"java/lang/Throwable", "fillInStackTrace", "(I)Ljava/lang/Throwable;"⟩, 6), (⟨"SharingRoom", "needParty", "(I)V"⟩, 3), (⟨"SharingRoom", "needCoefficient", "(I)V"⟩, 3), (⟨"SharingRoom", "needBeforeRounds", "()V"⟩, 3), (⟨"SharingRoom$Room", "dealAll", "()V"⟩, 15), (⟨"SharingRoom$Room", "deal", "(I)V"⟩, 15), (⟨"SharingRoom$Room", "dealtNumber", "(III)I"⟩, 15), (⟨"SharingRoom$Room", "complainAll", "()V"⟩, 15), (⟨"SharingRoom$Room", "complain", "(I)V"⟩, 15), (⟨"SharingRoom$Room", "fits", "(IIII)Z"⟩, 15), (⟨"SharingRoom$Room", "answerAll", "()V"⟩, 15), (⟨"SharingRoom$Room", "answer", "(I)V"⟩, 15), (⟨"SharingRoom$Room", "writeNumbers", "(III)V"⟩, 15), (⟨"SharingRoom$Room", "judgeAll", "()V"⟩, 15)]
theorem lw_r1 : ∀ q ∈ lw_privs_1, lw_okq q := List.forall_mem_cons.mpr ⟨lw_p0, List.forall_mem_cons.mpr ⟨lw_p1, List.forall_mem_cons.mpr ⟨lw_p2, List.forall_mem_cons.mpr ⟨lw_p3, List.forall_mem_cons.mpr ⟨lw_p4, List.forall_mem_cons.mpr ⟨lw_p5, List.forall_mem_cons.mpr ⟨lw_p6, List.forall_mem_cons.mpr ⟨lw_p7, List.forall_mem_cons.mpr ⟨lw_p8, List.forall_mem_cons.mpr ⟨lw_p9, List.forall_mem_cons.mpr ⟨lw_p10, List.forall_mem_cons.mpr ⟨lw_p11, List.forall_mem_cons.mpr ⟨lw_p12, List.forall_mem_cons.mpr ⟨lw_p13, List.forall_mem_cons.mpr ⟨lw_p14, List.forall_mem_cons.mpr ⟨lw_p15, fun _ h => absurd h List.not_mem_nil⟩⟩⟩⟩⟩⟩⟩⟩⟩⟩⟩⟩⟩⟩⟩⟩
theorem lw_p16 : lw_okq (⟨"SharingRoom$Room", "isOut", "(I)Z"⟩, 15) := ⟨⟨by decide +kernel, by decide +kernel⟩, List.mem_of_getElem? (i := 82) (by decide +kernel), List.mem_of_getElem? (i := 752) (by decide +kernel), List.mem_of_getElem? (i := 753) (by decide +kernel)⟩
theorem lw_p17 : lw_okq (⟨"SharingRoom$Room", "takeAnswers", "(I)V"⟩, 15) := ⟨⟨by decide +kernel, by decide +kernel⟩, List.mem_of_getElem? (i := 82) (by decide +kernel), List.mem_of_getElem? (i := 766) (by decide +kernel), List.mem_of_getElem? (i := 767) (by decide +kernel)⟩
theorem lw_p18 : lw_okq (⟨"SharingRoom$Room", "sumUp", "(II)V"⟩, 15) := ⟨⟨by decide +kernel, by decide +kernel⟩, List.mem_of_getElem? (i := 82) (by decide +kernel), List.mem_of_getElem? (i := 770) (by decide +kernel), List.mem_of_getElem? (i := 771) (by decide +kernel)⟩
theorem lw_p19 : lw_okq (⟨"SharingRoom$Room", "isQualified", "(I)Z"⟩, 15) := ⟨⟨by decide +kernel, by decide +kernel⟩, List.mem_of_getElem? (i := 82) (by decide +kernel), List.mem_of_getElem? (i := 774) (by decide +kernel), List.mem_of_getElem? (i := 775) (by decide +kernel)⟩
theorem lw_p20 : lw_okq (⟨"SharingRoom$Room", "extractAll", "()V"⟩, 15) := ⟨⟨by decide +kernel, by decide +kernel⟩, List.mem_of_getElem? (i := 82) (by decide +kernel), List.mem_of_getElem? (i := 778) (by decide +kernel), List.mem_of_getElem? (i := 779) (by decide +kernel)⟩
theorem lw_p21 : lw_okq (⟨"SharingRoom$Room", "extract", "(I)V"⟩, 15) := ⟨⟨by decide +kernel, by decide +kernel⟩, List.mem_of_getElem? (i := 82) (by decide +kernel), List.mem_of_getElem? (i := 782) (by decide +kernel), List.mem_of_getElem? (i := 783) (by decide +kernel)⟩
theorem lw_p22 : lw_okq (⟨"SharingRoom$Room", "accuseAll", "()V"⟩, 15) := ⟨⟨by decide +kernel, by decide +kernel⟩, List.mem_of_getElem? (i := 82) (by decide +kernel), List.mem_of_getElem? (i := 787) (by decide +kernel), List.mem_of_getElem? (i := 788) (by decide +kernel)⟩
theorem lw_p23 : lw_okq (⟨"SharingRoom$Room", "accuse", "(I)V"⟩, 15) := ⟨⟨by decide +kernel, by decide +kernel⟩, List.mem_of_getElem? (i := 82) (by decide +kernel), List.mem_of_getElem? (i := 791) (by decide +kernel), List.mem_of_getElem? (i := 792) (by decide +kernel)⟩
theorem lw_p24 : lw_okq (⟨"SharingRoom$Room", "openAll", "()V"⟩, 15) := ⟨⟨by decide +kernel, by decide +kernel⟩, List.mem_of_getElem? (i := 82) (by decide +kernel), List.mem_of_getElem? (i := 795) (by decide +kernel), List.mem_of_getElem? (i := 796) (by decide +kernel)⟩
theorem lw_p25 : lw_okq (⟨"SharingRoom$Room", "collectNumbers", "(I)V"⟩, 15) := ⟨⟨by decide +kernel, by decide +kernel⟩, List.mem_of_getElem? (i := 82) (by decide +kernel), List.mem_of_getElem? (i := 800) (by decide +kernel), List.mem_of_getElem? (i := 801) (by decide +kernel)⟩
theorem lw_p26 : lw_okq (⟨"SharingRoom$Sha256", "fillSchedule", "([BIII)V"⟩, 3) := ⟨⟨by decide +kernel, by decide +kernel⟩, List.mem_of_getElem? (i := 137) (by decide +kernel), List.mem_of_getElem? (i := 899) (by decide +kernel), List.mem_of_getElem? (i := 900) (by decide +kernel)⟩
theorem lw_p27 : lw_okq (⟨"SharingRoom$Sha256", "mix", "()V"⟩, 3) := ⟨⟨by decide +kernel, by decide +kernel⟩, List.mem_of_getElem? (i := 137) (by decide +kernel), List.mem_of_getElem? (i := 909) (by decide +kernel), List.mem_of_getElem? (i := 910) (by decide +kernel)⟩
theorem lw_p28 : lw_okq (⟨"SharingRoom", "needDone", "()V"⟩, 3) := ⟨⟨by decide +kernel, by decide +kernel⟩, List.mem_of_getElem? (i := 25) (by decide +kernel), List.mem_of_getElem? (i := 922) (by decide +kernel), List.mem_of_getElem? (i := 923) (by decide +kernel)⟩
theorem lw_p29 : lw_okq (⟨"SharingRoom", "needEnough", "(I)V"⟩, 3) := ⟨⟨by decide +kernel, by decide +kernel⟩, List.mem_of_getElem? (i := 25) (by decide +kernel), List.mem_of_getElem? (i := 927) (by decide +kernel), List.mem_of_getElem? (i := 928) (by decide +kernel)⟩
theorem lw_p30 : lw_okq (⟨"SharingRoom$Room", "collectShares", "(I)V"⟩, 15) := ⟨⟨by decide +kernel, by decide +kernel⟩, List.mem_of_getElem? (i := 82) (by decide +kernel), List.mem_of_getElem? (i := 940) (by decide +kernel), List.mem_of_getElem? (i := 941) (by decide +kernel)⟩
theorem lw_p31 : lw_okq (⟨"SharingRoom$Room", "dealtFrom", "(IIII)I"⟩, 15) := ⟨⟨by decide +kernel, by decide +kernel⟩, List.mem_of_getElem? (i := 82) (by decide +kernel), List.mem_of_getElem? (i := 955) (by decide +kernel), List.mem_of_getElem? (i := 956) (by decide +kernel)⟩
def lw_privs_2 : List (MethodName × Nat) := [(⟨"SharingRoom$Room", "isOut", "(I)Z"⟩, 15), (⟨"SharingRoom$Room", "takeAnswers", "(I)V"⟩, 15), (⟨"SharingRoom$Room", "sumUp", "(II)V"⟩, 15), (⟨"SharingRoom$Room", "isQualified", "(I)Z"⟩, 15), (⟨"SharingRoom$Room", "extractAll", "()V"⟩, 15), (⟨"SharingRoom$Room", "extract", "(I)V"⟩, 15), (⟨"SharingRoom$Room", "accuseAll", "()V"⟩, 15), (⟨"SharingRoom$Room", "accuse", "(I)V"⟩, 15), (⟨"SharingRoom$Room", "openAll", "()V"⟩, 15), (⟨"SharingRoom$Room", "collectNumbers", "(I)V"⟩, 15), (⟨"SharingRoom$Sha256", "fillSchedule", "([BIII)V"⟩, 3), (⟨"SharingRoom$Sha256", "mix", "()V"⟩, 3), (⟨"SharingRoom", "needDone", "()V"⟩, 3), (⟨"SharingRoom", "needEnough", "(I)V"⟩, 3), (⟨"SharingRoom$Room", "collectShares", "(I)V"⟩, 15), (⟨"SharingRoom$Room", "dealtFrom", "(IIII)I"⟩, 15)]
theorem lw_r2 : ∀ q ∈ lw_privs_2, lw_okq q := List.forall_mem_cons.mpr ⟨lw_p16, List.forall_mem_cons.mpr ⟨lw_p17, List.forall_mem_cons.mpr ⟨lw_p18, List.forall_mem_cons.mpr ⟨lw_p19, List.forall_mem_cons.mpr ⟨lw_p20, List.forall_mem_cons.mpr ⟨lw_p21, List.forall_mem_cons.mpr ⟨lw_p22, List.forall_mem_cons.mpr ⟨lw_p23, List.forall_mem_cons.mpr ⟨lw_p24, List.forall_mem_cons.mpr ⟨lw_p25, List.forall_mem_cons.mpr ⟨lw_p26, List.forall_mem_cons.mpr ⟨lw_p27, List.forall_mem_cons.mpr ⟨lw_p28, List.forall_mem_cons.mpr ⟨lw_p29, List.forall_mem_cons.mpr ⟨lw_p30, List.forall_mem_cons.mpr ⟨lw_p31, fun _ h => absurd h List.not_mem_nil⟩⟩⟩⟩⟩⟩⟩⟩⟩⟩⟩⟩⟩⟩⟩⟩
theorem lw_p32 : lw_okq (⟨"SharingRoom$Room", "takeNewShares", "()V"⟩, 15) := ⟨⟨by decide +kernel, by decide +kernel⟩, List.mem_of_getElem? (i := 82) (by decide +kernel), List.mem_of_getElem? (i := 959) (by decide +kernel), List.mem_of_getElem? (i := 960) (by decide +kernel)⟩
theorem lw_p33 : lw_okq (⟨"SharingRoom$Room", "addDealt", "(IIII)V"⟩, 15) := ⟨⟨by decide +kernel, by decide +kernel⟩, List.mem_of_getElem? (i := 82) (by decide +kernel), List.mem_of_getElem? (i := 978) (by decide +kernel), List.mem_of_getElem? (i := 979) (by decide +kernel)⟩
theorem lw_p34 : lw_okq (⟨"SharingRoomModel", "divide", "()V"⟩, 48) := ⟨⟨by decide +kernel, by decide +kernel⟩, List.mem_of_getElem? (i := 983) (by decide +kernel), List.mem_of_getElem? (i := 1231) (by decide +kernel), List.mem_of_getElem? (i := 1232) (by decide +kernel)⟩
theorem lw_p35 : lw_okq (⟨"SharingRoomModel", "forget", "()V"⟩, 48) := ⟨⟨by decide +kernel, by decide +kernel⟩, List.mem_of_getElem? (i := 983) (by decide +kernel), List.mem_of_getElem? (i := 1255) (by decide +kernel), List.mem_of_getElem? (i := 1256) (by decide +kernel)⟩
theorem lw_p36 : lw_okq (⟨"SharingRoomModel", "isParty", "(I)Z"⟩, 48) := ⟨⟨by decide +kernel, by decide +kernel⟩, List.mem_of_getElem? (i := 983) (by decide +kernel), List.mem_of_getElem? (i := 1263) (by decide +kernel), List.mem_of_getElem? (i := 1264) (by decide +kernel)⟩
theorem lw_p37 : lw_okq (⟨"SharingRoomModel", "deal", "()V"⟩, 48) := ⟨⟨by decide +kernel, by decide +kernel⟩, List.mem_of_getElem? (i := 983) (by decide +kernel), List.mem_of_getElem? (i := 1279) (by decide +kernel), List.mem_of_getElem? (i := 1280) (by decide +kernel)⟩
theorem lw_p38 : lw_okq (⟨"SharingRoomModel", "works", "(II)Z"⟩, 48) := ⟨⟨by decide +kernel, by decide +kernel⟩, List.mem_of_getElem? (i := 983) (by decide +kernel), List.mem_of_getElem? (i := 1283) (by decide +kernel), List.mem_of_getElem? (i := 1284) (by decide +kernel)⟩
theorem lw_p39 : lw_okq (⟨"SharingRoomModel", "is", "(II)Z"⟩, 48) := ⟨⟨by decide +kernel, by decide +kernel⟩, List.mem_of_getElem? (i := 983) (by decide +kernel), List.mem_of_getElem? (i := 1287) (by decide +kernel), List.mem_of_getElem? (i := 1288) (by decide +kernel)⟩
theorem lw_p40 : lw_okq (⟨"SharingRoomModel", "show", "(I)V"⟩, 48) := ⟨⟨by decide +kernel, by decide +kernel⟩, List.mem_of_getElem? (i := 983) (by decide +kernel), List.mem_of_getElem? (i := 1291) (by decide +kernel), List.mem_of_getElem? (i := 1292) (by decide +kernel)⟩
theorem lw_p41 : lw_okq (⟨"SharingRoomModel", "element", "(I)I"⟩, 48) := ⟨⟨by decide +kernel, by decide +kernel⟩, List.mem_of_getElem? (i := 983) (by decide +kernel), List.mem_of_getElem? (i := 1295) (by decide +kernel), List.mem_of_getElem? (i := 1296) (by decide +kernel)⟩
theorem lw_p42 : lw_okq (⟨"SharingRoomModel", "showTwo", "(I)V"⟩, 48) := ⟨⟨by decide +kernel, by decide +kernel⟩, List.mem_of_getElem? (i := 983) (by decide +kernel), List.mem_of_getElem? (i := 1299) (by decide +kernel), List.mem_of_getElem? (i := 1300) (by decide +kernel)⟩
theorem lw_p43 : lw_okq (⟨"SharingRoomModel", "at", "(II)I"⟩, 48) := ⟨⟨by decide +kernel, by decide +kernel⟩, List.mem_of_getElem? (i := 983) (by decide +kernel), List.mem_of_getElem? (i := 1303) (by decide +kernel), List.mem_of_getElem? (i := 1304) (by decide +kernel)⟩
theorem lw_p44 : lw_okq (⟨"SharingRoomModel", "f", "(II)I"⟩, 48) := ⟨⟨by decide +kernel, by decide +kernel⟩, List.mem_of_getElem? (i := 983) (by decide +kernel), List.mem_of_getElem? (i := 1307) (by decide +kernel), List.mem_of_getElem? (i := 1308) (by decide +kernel)⟩
theorem lw_p45 : lw_okq (⟨"SharingRoomModel", "power", "(II)I"⟩, 48) := ⟨⟨by decide +kernel, by decide +kernel⟩, List.mem_of_getElem? (i := 983) (by decide +kernel), List.mem_of_getElem? (i := 1311) (by decide +kernel), List.mem_of_getElem? (i := 1312) (by decide +kernel)⟩
theorem lw_p46 : lw_okq (⟨"SharingRoomModel", "blind", "(II)I"⟩, 48) := ⟨⟨by decide +kernel, by decide +kernel⟩, List.mem_of_getElem? (i := 983) (by decide +kernel), List.mem_of_getElem? (i := 1315) (by decide +kernel), List.mem_of_getElem? (i := 1316) (by decide +kernel)⟩
theorem lw_p47 : lw_okq (⟨"SharingRoomModel", "complain", "()V"⟩, 48) := ⟨⟨by decide +kernel, by decide +kernel⟩, List.mem_of_getElem? (i := 983) (by decide +kernel), List.mem_of_getElem? (i := 1319) (by decide +kernel), List.mem_of_getElem? (i := 1320) (by decide +kernel)⟩
def lw_privs_3 : List (MethodName × Nat) := [(⟨"SharingRoom$Room", "takeNewShares", "()V"⟩, 15), (⟨"SharingRoom$Room", "addDealt", "(IIII)V"⟩, 15), (⟨"SharingRoomModel", "divide", "()V"⟩, 48), (⟨"SharingRoomModel", "forget", "()V"⟩, 48), (⟨"SharingRoomModel", "isParty", "(I)Z"⟩, 48), (⟨"SharingRoomModel", "deal", "()V"⟩, 48), (⟨"SharingRoomModel", "works", "(II)Z"⟩, 48), (⟨"SharingRoomModel", "is", "(II)Z"⟩, 48), (⟨"SharingRoomModel", "show", "(I)V"⟩, 48), (⟨"SharingRoomModel", "element", "(I)I"⟩, 48), (⟨"SharingRoomModel", "showTwo", "(I)V"⟩, 48), (⟨"SharingRoomModel", "at", "(II)I"⟩, 48), (⟨"SharingRoomModel", "f", "(II)I"⟩, 48), (⟨"SharingRoomModel", "power", "(II)I"⟩, 48), (⟨"SharingRoomModel", "blind", "(II)I"⟩, 48), (⟨"SharingRoomModel", "complain", "()V"⟩, 48)]
theorem lw_r3 : ∀ q ∈ lw_privs_3, lw_okq q := List.forall_mem_cons.mpr ⟨lw_p32, List.forall_mem_cons.mpr ⟨lw_p33, List.forall_mem_cons.mpr ⟨lw_p34, List.forall_mem_cons.mpr ⟨lw_p35, List.forall_mem_cons.mpr ⟨lw_p36, List.forall_mem_cons.mpr ⟨lw_p37, List.forall_mem_cons.mpr ⟨lw_p38, List.forall_mem_cons.mpr ⟨lw_p39, List.forall_mem_cons.mpr ⟨lw_p40, List.forall_mem_cons.mpr ⟨lw_p41, List.forall_mem_cons.mpr ⟨lw_p42, List.forall_mem_cons.mpr ⟨lw_p43, List.forall_mem_cons.mpr ⟨lw_p44, List.forall_mem_cons.mpr ⟨lw_p45, List.forall_mem_cons.mpr ⟨lw_p46, List.forall_mem_cons.mpr ⟨lw_p47, fun _ h => absurd h List.not_mem_nil⟩⟩⟩⟩⟩⟩⟩⟩⟩⟩⟩⟩⟩⟩⟩⟩
theorem lw_p48 : lw_okq (⟨"SharingRoomModel", "fits", "(IIII)Z"⟩, 48) := ⟨⟨by decide +kernel, by decide +kernel⟩, List.mem_of_getElem? (i := 983) (by decide +kernel), List.mem_of_getElem? (i := 1326) (by decide +kernel), List.mem_of_getElem? (i := 1327) (by decide +kernel)⟩
theorem lw_p49 : lw_okq (⟨"SharingRoomModel", "answer", "()V"⟩, 48) := ⟨⟨by decide +kernel, by decide +kernel⟩, List.mem_of_getElem? (i := 983) (by decide +kernel), List.mem_of_getElem? (i := 1330) (by decide +kernel), List.mem_of_getElem? (i := 1331) (by decide +kernel)⟩
theorem lw_p50 : lw_okq (⟨"SharingRoomModel", "showNumbers", "(IIIII)V"⟩, 48) := ⟨⟨by decide +kernel, by decide +kernel⟩, List.mem_of_getElem? (i := 983) (by decide +kernel), List.mem_of_getElem? (i := 1334) (by decide +kernel), List.mem_of_getElem? (i := 1335) (by decide +kernel)⟩
theorem lw_p51 : lw_okq (⟨"SharingRoomModel", "judge", "()V"⟩, 48) := ⟨⟨by decide +kernel, by decide +kernel⟩, List.mem_of_getElem? (i := 983) (by decide +kernel), List.mem_of_getElem? (i := 1338) (by decide +kernel), List.mem_of_getElem? (i := 1339) (by decide +kernel)⟩
theorem lw_p52 : lw_okq (⟨"SharingRoomModel", "extract", "()V"⟩, 48) := ⟨⟨by decide +kernel, by decide +kernel⟩, List.mem_of_getElem? (i := 983) (by decide +kernel), List.mem_of_getElem? (i := 1345) (by decide +kernel), List.mem_of_getElem? (i := 1346) (by decide +kernel)⟩
theorem lw_p53 : lw_okq (⟨"SharingRoomModel", "accuse", "()V"⟩, 48) := ⟨⟨by decide +kernel, by decide +kernel⟩, List.mem_of_getElem? (i := 983) (by decide +kernel), List.mem_of_getElem? (i := 1349) (by decide +kernel), List.mem_of_getElem? (i := 1350) (by decide +kernel)⟩
theorem lw_p54 : lw_okq (⟨"SharingRoomModel", "open", "()V"⟩, 48) := ⟨⟨by decide +kernel, by decide +kernel⟩, List.mem_of_getElem? (i := 983) (by decide +kernel), List.mem_of_getElem? (i := 1353) (by decide +kernel), List.mem_of_getElem? (i := 1354) (by decide +kernel)⟩
theorem lw_p55 : lw_okq (⟨"SharingRoomModel", "atZero", "(I)I"⟩, 48) := ⟨⟨by decide +kernel, by decide +kernel⟩, List.mem_of_getElem? (i := 983) (by decide +kernel), List.mem_of_getElem? (i := 1357) (by decide +kernel), List.mem_of_getElem? (i := 1358) (by decide +kernel)⟩
theorem lw_p56 : lw_okq (⟨"SharingRoomModel", "weight", "(II)I"⟩, 48) := ⟨⟨by decide +kernel, by decide +kernel⟩, List.mem_of_getElem? (i := 983) (by decide +kernel), List.mem_of_getElem? (i := 1361) (by decide +kernel), List.mem_of_getElem? (i := 1362) (by decide +kernel)⟩
theorem lw_p57 : lw_okq (⟨"SharingRoomModel", "mask", "()I"⟩, 48) := ⟨⟨by decide +kernel, by decide +kernel⟩, List.mem_of_getElem? (i := 983) (by decide +kernel), List.mem_of_getElem? (i := 1373) (by decide +kernel), List.mem_of_getElem? (i := 1374) (by decide +kernel)⟩
theorem lw_p58 : lw_okq (⟨"SharingRoomModel", "block", "(II)V"⟩, 48) := ⟨⟨by decide +kernel, by decide +kernel⟩, List.mem_of_getElem? (i := 983) (by decide +kernel), List.mem_of_getElem? (i := 1409) (by decide +kernel), List.mem_of_getElem? (i := 1410) (by decide +kernel)⟩
theorem lw_p59 : lw_okq (⟨"SharingRoomModel", "padded", "(II)I"⟩, 48) := ⟨⟨by decide +kernel, by decide +kernel⟩, List.mem_of_getElem? (i := 983) (by decide +kernel), List.mem_of_getElem? (i := 1413) (by decide +kernel), List.mem_of_getElem? (i := 1414) (by decide +kernel)⟩
theorem lw_p60 : lw_okq (⟨"SharingRoomModel", "mix", "(I)V"⟩, 48) := ⟨⟨by decide +kernel, by decide +kernel⟩, List.mem_of_getElem? (i := 983) (by decide +kernel), List.mem_of_getElem? (i := 1420) (by decide +kernel), List.mem_of_getElem? (i := 1421) (by decide +kernel)⟩
theorem lw_p61 : lw_okq (⟨"SharingRoomModel", "enough", "(I)Z"⟩, 48) := ⟨⟨by decide +kernel, by decide +kernel⟩, List.mem_of_getElem? (i := 983) (by decide +kernel), List.mem_of_getElem? (i := 1428) (by decide +kernel), List.mem_of_getElem? (i := 1429) (by decide +kernel)⟩
def lw_privs_4 : List (MethodName × Nat) := [(⟨"SharingRoomModel", "fits", "(IIII)Z"⟩, 48), (⟨"SharingRoomModel", "answer", "()V"⟩, 48), (⟨"SharingRoomModel", "showNumbers", "(IIIII)V"⟩, 48), (⟨"SharingRoomModel", "judge", "()V"⟩, 48), (⟨"SharingRoomModel", "extract", "()V"⟩, 48), (⟨"SharingRoomModel", "accuse", "()V"⟩, 48), (⟨"SharingRoomModel", "open", "()V"⟩, 48), (⟨"SharingRoomModel", "atZero", "(I)I"⟩, 48), (⟨"SharingRoomModel", "weight", "(II)I"⟩, 48), (⟨"SharingRoomModel", "mask", "()I"⟩, 48), (⟨"SharingRoomModel", "block", "(II)V"⟩, 48), (⟨"SharingRoomModel", "padded", "(II)I"⟩, 48), (⟨"SharingRoomModel", "mix", "(I)V"⟩, 48), (⟨"SharingRoomModel", "enough", "(I)Z"⟩, 48)]
theorem lw_r4 : ∀ q ∈ lw_privs_4, lw_okq q := List.forall_mem_cons.mpr ⟨lw_p48, List.forall_mem_cons.mpr ⟨lw_p49, List.forall_mem_cons.mpr ⟨lw_p50, List.forall_mem_cons.mpr ⟨lw_p51, List.forall_mem_cons.mpr ⟨lw_p52, List.forall_mem_cons.mpr ⟨lw_p53, List.forall_mem_cons.mpr ⟨lw_p54, List.forall_mem_cons.mpr ⟨lw_p55, List.forall_mem_cons.mpr ⟨lw_p56, List.forall_mem_cons.mpr ⟨lw_p57, List.forall_mem_cons.mpr ⟨lw_p58, List.forall_mem_cons.mpr ⟨lw_p59, List.forall_mem_cons.mpr ⟨lw_p60, List.forall_mem_cons.mpr ⟨lw_p61, fun _ h => absurd h List.not_mem_nil⟩⟩⟩⟩⟩⟩⟩⟩⟩⟩⟩⟩⟩⟩
def lw_privs : List (MethodName × Nat) := lw_privs_1 ++ (lw_privs_2 ++ (lw_privs_3 ++ (lw_privs_4)))
def lw_tbl : List Cond := k2_sels lw_privs ++ tables_1
theorem lw_privs_ok : ∀ q ∈ lw_privs, lw_okq q := by
  show ∀ q ∈ lw_privs_1 ++ (lw_privs_2 ++ (lw_privs_3 ++ (lw_privs_4))), lw_okq q
  exact List.forall_mem_append.mpr ⟨lw_r1, List.forall_mem_append.mpr ⟨lw_r2, List.forall_mem_append.mpr ⟨lw_r3, lw_r4⟩⟩⟩
end
section
/-- the good words of the tables: those that a callee has too -/
def jWS : List Cond := lw_tbl.filter goodWord
theorem jgood : ∀ w ∈ jWS, (w.onTables && w.keeps) = true ∨ ∃ ty, w = .arrayClass ty := fun w h => good_of_word (List.mem_filter.mp h).2
theorem jm {w : Cond} (i : Nat) (h : lw_tbl[i]? = some w) (g : goodWord w = true) : w ∈ jWS := List.mem_filter.mpr ⟨List.mem_of_getElem? h, g⟩
abbrev jDec (cc : ByteArray) (t : List (Nat × Instr × Nat)) : Prop := ∀ q ∈ t, decode cc q.1 = .ok q.2
theorem jd {cc : ByteArray} {t : List (Nat × Instr × Nat)} (K : jDec cc t) (i : Nat) {pc len : Nat} {ins : Instr} (h : t[i]? = some (pc, ins, len)) : decode cc pc = .ok (ins, len) := K (pc, ins, len) (List.mem_of_getElem? h)
def T_SR : u_T := fun k => match k with
  | 0 => ("SharingRoom", "fields", "[LSharingRoom$Field;", true)
  | 1 => ("SharingRoom", "points", "LSharingRoom$Points;", true)
  | _ => ("SharingRoom", "room", "LSharingRoom$Room;", true)
def ty_SR : Nat → FieldType := fun k => match k with
  | 0 => .array (.object "SharingRoom$Field")
  | 1 => .object "SharingRoom$Points"
  | _ => .object "SharingRoom$Room"
theorem nm_SR : ∀ a, a < 3 → ∀ b, b < 3 → a ≠ b → (T_SR a).2.1 ≠ (T_SR b).2.1 := by decide +kernel
theorem tk_SR : ∀ k, k < 3 → parseFieldDescriptor (T_SR k).2.2.1 = some (ty_SR k) := by decide +kernel
set_option maxRecDepth 100000 in
theorem in_SR : ∀ w ∈ u_ws "SharingRoom" T_SR 3, w ∈ jWS := by
  have h : u_ws "SharingRoom" T_SR 3 = [Cond.laysFinal "SharingRoom" "SharingRoom" "fields" "[LSharingRoom$Field;", Cond.laysFinal "SharingRoom" "SharingRoom" "points" "LSharingRoom$Points;", Cond.laysFinal "SharingRoom" "SharingRoom" "room" "LSharingRoom$Room;"] := by decide +kernel
  rw [h]
  exact List.forall_mem_cons.mpr ⟨jm 326 rfl rfl, List.forall_mem_cons.mpr ⟨jm 328 rfl rfl, List.forall_mem_cons.mpr ⟨jm 330 rfl rfl, fun _ h => absurd h List.not_mem_nil⟩⟩⟩
def T_Board : u_T := fun k => match k with
  | 0 => ("SharingRoom$Board", "bytes", "[B", true)
  | 1 => ("SharingRoom$Board", "sha", "LSharingRoom$Sha256;", true)
  | _ => ("SharingRoom$Board", "size", "I", false)
def ty_Board : Nat → FieldType := fun k => match k with
  | 0 => .array .byte
  | 1 => .object "SharingRoom$Sha256"
  | _ => .int
theorem nm_Board : ∀ a, a < 3 → ∀ b, b < 3 → a ≠ b → (T_Board a).2.1 ≠ (T_Board b).2.1 := by decide +kernel
theorem tk_Board : ∀ k, k < 3 → parseFieldDescriptor (T_Board k).2.2.1 = some (ty_Board k) := by decide +kernel
set_option maxRecDepth 100000 in
theorem in_Board : ∀ w ∈ u_ws "SharingRoom$Board" T_Board 3, w ∈ jWS := by
  have h : u_ws "SharingRoom$Board" T_Board 3 = [Cond.laysFinal "SharingRoom$Board" "SharingRoom$Board" "bytes" "[B", Cond.laysFinal "SharingRoom$Board" "SharingRoom$Board" "sha" "LSharingRoom$Sha256;", Cond.lays "SharingRoom$Board" "SharingRoom$Board" "size" "I"] := by decide +kernel
  rw [h]
  exact List.forall_mem_cons.mpr ⟨jm 218 rfl rfl, List.forall_mem_cons.mpr ⟨jm 220 rfl rfl, List.forall_mem_cons.mpr ⟨jm 222 rfl rfl, fun _ h => absurd h List.not_mem_nil⟩⟩⟩
def T_Byte : u_T := fun k => match k with
  | _ => ("SharingRoom$Field", "size", "I", true)
def ty_Byte : Nat → FieldType := fun k => match k with
  | _ => .int
theorem nm_Byte : ∀ a, a < 1 → ∀ b, b < 1 → a ≠ b → (T_Byte a).2.1 ≠ (T_Byte b).2.1 := by decide +kernel
theorem tk_Byte : ∀ k, k < 1 → parseFieldDescriptor (T_Byte k).2.2.1 = some (ty_Byte k) := by decide +kernel
set_option maxRecDepth 100000 in
theorem in_Byte : ∀ w ∈ u_ws "SharingRoom$ByteField" T_Byte 1, w ∈ jWS := by
  have h : u_ws "SharingRoom$ByteField" T_Byte 1 = [Cond.laysFinal "SharingRoom$ByteField" "SharingRoom$Field" "size" "I"] := by decide +kernel
  rw [h]
  exact List.forall_mem_cons.mpr ⟨jm 118 rfl rfl, fun _ h => absurd h List.not_mem_nil⟩
def T_Curve : u_T := fun k => match k with
  | 0 => ("SharingRoom$Group", "exponents", "LSharingRoom$Field;", true)
  | 1 => ("SharingRoom$Group", "neutral", "I", true)
  | 2 => ("SharingRoom$Group", "g", "I", true)
  | 3 => ("SharingRoom$Group", "h", "I", true)
  | _ => ("SharingRoom$CurveGroup", "inverses", "[I", true)
def ty_Curve : Nat → FieldType := fun k => match k with
  | 0 => .object "SharingRoom$Field"
  | 1 => .int
  | 2 => .int
  | 3 => .int
  | _ => .array .int
theorem nm_Curve : ∀ a, a < 5 → ∀ b, b < 5 → a ≠ b → (T_Curve a).2.1 ≠ (T_Curve b).2.1 := by decide +kernel
theorem tk_Curve : ∀ k, k < 5 → parseFieldDescriptor (T_Curve k).2.2.1 = some (ty_Curve k) := by decide +kernel
set_option maxRecDepth 100000 in
theorem in_Curve : ∀ w ∈ u_ws "SharingRoom$CurveGroup" T_Curve 5, w ∈ jWS := by
  have h : u_ws "SharingRoom$CurveGroup" T_Curve 5 = [Cond.laysFinal "SharingRoom$CurveGroup" "SharingRoom$Group" "exponents" "LSharingRoom$Field;", Cond.laysFinal "SharingRoom$CurveGroup" "SharingRoom$Group" "neutral" "I", Cond.laysFinal "SharingRoom$CurveGroup" "SharingRoom$Group" "g" "I", Cond.laysFinal "SharingRoom$CurveGroup" "SharingRoom$Group" "h" "I", Cond.laysFinal "SharingRoom$CurveGroup" "SharingRoom$CurveGroup" "inverses" "[I"] := by decide +kernel
  rw [h]
  exact List.forall_mem_cons.mpr ⟨jm 181 rfl rfl, List.forall_mem_cons.mpr ⟨jm 182 rfl rfl, List.forall_mem_cons.mpr ⟨jm 183 rfl rfl, List.forall_mem_cons.mpr ⟨jm 184 rfl rfl, List.forall_mem_cons.mpr ⟨jm 179 rfl rfl, fun _ h => absurd h List.not_mem_nil⟩⟩⟩⟩⟩
def T_Party : u_T := fun k => match k with
  | 0 => ("SharingRoom$Party", "coefficients", "[[I", true)
  | 1 => ("SharingRoom$Party", "faults", "[I", true)
  | 2 => ("SharingRoom$Party", "shown", "[[I", true)
  | 3 => ("SharingRoom$Party", "numbers", "[[I", true)
  | 4 => ("SharingRoom$Party", "answers", "[[I", true)
  | 5 => ("SharingRoom$Party", "shares", "[I", true)
  | 6 => ("SharingRoom$Party", "crashRound", "I", false)
  | 7 => ("SharingRoom$Party", "complaints", "I", false)
  | 8 => ("SharingRoom$Party", "dealt", "Z", false)
  | _ => ("SharingRoom$Party", "extracted", "Z", false)
def ty_Party : Nat → FieldType := fun k => match k with
  | 0 => .array (.array .int)
  | 1 => .array .int
  | 2 => .array (.array .int)
  | 3 => .array (.array .int)
  | 4 => .array (.array .int)
  | 5 => .array .int
  | 6 => .int
  | 7 => .int
  | 8 => .boolean
  | _ => .boolean
theorem nm_Party : ∀ a, a < 10 → ∀ b, b < 10 → a ≠ b → (T_Party a).2.1 ≠ (T_Party b).2.1 := by decide +kernel
theorem tk_Party : ∀ k, k < 10 → parseFieldDescriptor (T_Party k).2.2.1 = some (ty_Party k) := by decide +kernel
set_option maxRecDepth 100000 in
theorem in_Party : ∀ w ∈ u_ws "SharingRoom$Party" T_Party 10, w ∈ jWS := by
  have h : u_ws "SharingRoom$Party" T_Party 10 = [Cond.laysFinal "SharingRoom$Party" "SharingRoom$Party" "coefficients" "[[I", Cond.laysFinal "SharingRoom$Party" "SharingRoom$Party" "faults" "[I", Cond.laysFinal "SharingRoom$Party" "SharingRoom$Party" "shown" "[[I", Cond.laysFinal "SharingRoom$Party" "SharingRoom$Party" "numbers" "[[I", Cond.laysFinal "SharingRoom$Party" "SharingRoom$Party" "answers" "[[I", Cond.laysFinal "SharingRoom$Party" "SharingRoom$Party" "shares" "[I", Cond.lays "SharingRoom$Party" "SharingRoom$Party" "crashRound" "I", Cond.lays "SharingRoom$Party" "SharingRoom$Party" "complaints" "I", Cond.lays "SharingRoom$Party" "SharingRoom$Party" "dealt" "Z", Cond.lays "SharingRoom$Party" "SharingRoom$Party" "extracted" "Z"] := by decide +kernel
  rw [h]
  exact List.forall_mem_cons.mpr ⟨jm 256 rfl rfl, List.forall_mem_cons.mpr ⟨jm 258 rfl rfl, List.forall_mem_cons.mpr ⟨jm 260 rfl rfl, List.forall_mem_cons.mpr ⟨jm 262 rfl rfl, List.forall_mem_cons.mpr ⟨jm 264 rfl rfl, List.forall_mem_cons.mpr ⟨jm 266 rfl rfl, List.forall_mem_cons.mpr ⟨jm 268 rfl rfl, List.forall_mem_cons.mpr ⟨jm 270 rfl rfl, List.forall_mem_cons.mpr ⟨jm 272 rfl rfl, List.forall_mem_cons.mpr ⟨jm 274 rfl rfl, fun _ h => absurd h List.not_mem_nil⟩⟩⟩⟩⟩⟩⟩⟩⟩⟩
def T_Points : u_T := fun k => match k with
  | 0 => ("SharingRoom$Points", "xs", "[I", true)
  | 1 => ("SharingRoom$Points", "ys", "[I", true)
  | 2 => ("SharingRoom$Points", "differences", "[I", true)
  | 3 => ("SharingRoom$Points", "field", "LSharingRoom$Field;", false)
  | _ => ("SharingRoom$Points", "count", "I", false)
def ty_Points : Nat → FieldType := fun k => match k with
  | 0 => .array .int
  | 1 => .array .int
  | 2 => .array .int
  | 3 => .object "SharingRoom$Field"
  | _ => .int
theorem nm_Points : ∀ a, a < 5 → ∀ b, b < 5 → a ≠ b → (T_Points a).2.1 ≠ (T_Points b).2.1 := by decide +kernel
theorem tk_Points : ∀ k, k < 5 → parseFieldDescriptor (T_Points k).2.2.1 = some (ty_Points k) := by decide +kernel
set_option maxRecDepth 100000 in
theorem in_Points : ∀ w ∈ u_ws "SharingRoom$Points" T_Points 5, w ∈ jWS := by
  have h : u_ws "SharingRoom$Points" T_Points 5 = [Cond.laysFinal "SharingRoom$Points" "SharingRoom$Points" "xs" "[I", Cond.laysFinal "SharingRoom$Points" "SharingRoom$Points" "ys" "[I", Cond.laysFinal "SharingRoom$Points" "SharingRoom$Points" "differences" "[I", Cond.lays "SharingRoom$Points" "SharingRoom$Points" "field" "LSharingRoom$Field;", Cond.lays "SharingRoom$Points" "SharingRoom$Points" "count" "I"] := by decide +kernel
  rw [h]
  exact List.forall_mem_cons.mpr ⟨jm 131 rfl rfl, List.forall_mem_cons.mpr ⟨jm 133 rfl rfl, List.forall_mem_cons.mpr ⟨jm 135 rfl rfl, List.forall_mem_cons.mpr ⟨jm 137 rfl rfl, List.forall_mem_cons.mpr ⟨jm 139 rfl rfl, fun _ h => absurd h List.not_mem_nil⟩⟩⟩⟩⟩
def T_Prime : u_T := fun k => match k with
  | _ => ("SharingRoom$Field", "size", "I", true)
def ty_Prime : Nat → FieldType := fun k => match k with
  | _ => .int
theorem nm_Prime : ∀ a, a < 1 → ∀ b, b < 1 → a ≠ b → (T_Prime a).2.1 ≠ (T_Prime b).2.1 := by decide +kernel
theorem tk_Prime : ∀ k, k < 1 → parseFieldDescriptor (T_Prime k).2.2.1 = some (ty_Prime k) := by decide +kernel
set_option maxRecDepth 100000 in
theorem in_Prime : ∀ w ∈ u_ws "SharingRoom$PrimeField" T_Prime 1, w ∈ jWS := by
  have h : u_ws "SharingRoom$PrimeField" T_Prime 1 = [Cond.laysFinal "SharingRoom$PrimeField" "SharingRoom$Field" "size" "I"] := by decide +kernel
  rw [h]
  exact List.forall_mem_cons.mpr ⟨jm 107 rfl rfl, fun _ h => absurd h List.not_mem_nil⟩
def T_Room : u_T := fun k => match k with
  | 0 => ("SharingRoom$Room", "groups", "[LSharingRoom$Group;", true)
  | 1 => ("SharingRoom$Room", "seats", "[LSharingRoom$Party;", true)
  | 2 => ("SharingRoom$Room", "board", "LSharingRoom$Board;", true)
  | 3 => ("SharingRoom$Room", "through", "LSharingRoom$Points;", true)
  | 4 => ("SharingRoom$Room", "newShares", "[I", true)
  | 5 => ("SharingRoom$Room", "group", "LSharingRoom$Group;", false)
  | 6 => ("SharingRoom$Room", "numbers", "LSharingRoom$Field;", false)
  | 7 => ("SharingRoom$Room", "n", "I", false)
  | 8 => ("SharingRoom$Room", "t", "I", false)
  | 9 => ("SharingRoom$Room", "stage", "I", false)
  | 10 => ("SharingRoom$Room", "round", "I", false)
  | 11 => ("SharingRoom$Room", "qualified", "I", false)
  | 12 => ("SharingRoom$Room", "accused", "I", false)
  | 13 => ("SharingRoom$Room", "opened", "I", false)
  | _ => ("SharingRoom$Room", "key", "I", false)
def ty_Room : Nat → FieldType := fun k => match k with
  | 0 => .array (.object "SharingRoom$Group")
  | 1 => .array (.object "SharingRoom$Party")
  | 2 => .object "SharingRoom$Board"
  | 3 => .object "SharingRoom$Points"
  | 4 => .array .int
  | 5 => .object "SharingRoom$Group"
  | 6 => .object "SharingRoom$Field"
  | 7 => .int
  | 8 => .int
  | 9 => .int
  | 10 => .int
  | 11 => .int
  | 12 => .int
  | 13 => .int
  | _ => .int
theorem nm_Room : ∀ a, a < 15 → ∀ b, b < 15 → a ≠ b → (T_Room a).2.1 ≠ (T_Room b).2.1 := by decide +kernel
theorem tk_Room : ∀ k, k < 15 → parseFieldDescriptor (T_Room k).2.2.1 = some (ty_Room k) := by decide +kernel
set_option maxRecDepth 100000 in
theorem in_Room : ∀ w ∈ u_ws "SharingRoom$Room" T_Room 15, w ∈ jWS := by
  have h : u_ws "SharingRoom$Room" T_Room 15 = [Cond.laysFinal "SharingRoom$Room" "SharingRoom$Room" "groups" "[LSharingRoom$Group;", Cond.laysFinal "SharingRoom$Room" "SharingRoom$Room" "seats" "[LSharingRoom$Party;", Cond.laysFinal "SharingRoom$Room" "SharingRoom$Room" "board" "LSharingRoom$Board;", Cond.laysFinal "SharingRoom$Room" "SharingRoom$Room" "through" "LSharingRoom$Points;", Cond.laysFinal "SharingRoom$Room" "SharingRoom$Room" "newShares" "[I", Cond.lays "SharingRoom$Room" "SharingRoom$Room" "group" "LSharingRoom$Group;", Cond.lays "SharingRoom$Room" "SharingRoom$Room" "numbers" "LSharingRoom$Field;", Cond.lays "SharingRoom$Room" "SharingRoom$Room" "n" "I", Cond.lays "SharingRoom$Room" "SharingRoom$Room" "t" "I", Cond.lays "SharingRoom$Room" "SharingRoom$Room" "stage" "I", Cond.lays "SharingRoom$Room" "SharingRoom$Room" "round" "I", Cond.lays "SharingRoom$Room" "SharingRoom$Room" "qualified" "I", Cond.lays "SharingRoom$Room" "SharingRoom$Room" "accused" "I", Cond.lays "SharingRoom$Room" "SharingRoom$Room" "opened" "I", Cond.lays "SharingRoom$Room" "SharingRoom$Room" "key" "I"] := by decide +kernel
  rw [h]
  exact List.forall_mem_cons.mpr ⟨jm 292 rfl rfl, List.forall_mem_cons.mpr ⟨jm 294 rfl rfl, List.forall_mem_cons.mpr ⟨jm 296 rfl rfl, List.forall_mem_cons.mpr ⟨jm 298 rfl rfl, List.forall_mem_cons.mpr ⟨jm 300 rfl rfl, List.forall_mem_cons.mpr ⟨jm 302 rfl rfl, List.forall_mem_cons.mpr ⟨jm 304 rfl rfl, List.forall_mem_cons.mpr ⟨jm 306 rfl rfl, List.forall_mem_cons.mpr ⟨jm 308 rfl rfl, List.forall_mem_cons.mpr ⟨jm 310 rfl rfl, List.forall_mem_cons.mpr ⟨jm 312 rfl rfl, List.forall_mem_cons.mpr ⟨jm 314 rfl rfl, List.forall_mem_cons.mpr ⟨jm 316 rfl rfl, List.forall_mem_cons.mpr ⟨jm 318 rfl rfl, List.forall_mem_cons.mpr ⟨jm 320 rfl rfl, fun _ h => absurd h List.not_mem_nil⟩⟩⟩⟩⟩⟩⟩⟩⟩⟩⟩⟩⟩⟩⟩
def T_Sha : u_T := fun k => match k with
  | 0 => ("SharingRoom$Sha256", "schedule", "[I", true)
  | 1 => ("SharingRoom$Sha256", "hash", "[I", true)
  | _ => ("SharingRoom$Sha256", "work", "[I", true)
def ty_Sha : Nat → FieldType := fun k => match k with
  | 0 => .array .int
  | 1 => .array .int
  | _ => .array .int
theorem nm_Sha : ∀ a, a < 3 → ∀ b, b < 3 → a ≠ b → (T_Sha a).2.1 ≠ (T_Sha b).2.1 := by decide +kernel
theorem tk_Sha : ∀ k, k < 3 → parseFieldDescriptor (T_Sha k).2.2.1 = some (ty_Sha k) := by decide +kernel
set_option maxRecDepth 100000 in
theorem in_Sha : ∀ w ∈ u_ws "SharingRoom$Sha256" T_Sha 3, w ∈ jWS := by
  have h : u_ws "SharingRoom$Sha256" T_Sha 3 = [Cond.laysFinal "SharingRoom$Sha256" "SharingRoom$Sha256" "schedule" "[I", Cond.laysFinal "SharingRoom$Sha256" "SharingRoom$Sha256" "hash" "[I", Cond.laysFinal "SharingRoom$Sha256" "SharingRoom$Sha256" "work" "[I"] := by decide +kernel
  rw [h]
  exact List.forall_mem_cons.mpr ⟨jm 207 rfl rfl, List.forall_mem_cons.mpr ⟨jm 209 rfl rfl, List.forall_mem_cons.mpr ⟨jm 211 rfl rfl, fun _ h => absurd h List.not_mem_nil⟩⟩⟩
def T_Square : u_T := fun k => match k with
  | 0 => ("SharingRoom$Group", "exponents", "LSharingRoom$Field;", true)
  | 1 => ("SharingRoom$Group", "neutral", "I", true)
  | 2 => ("SharingRoom$Group", "g", "I", true)
  | _ => ("SharingRoom$Group", "h", "I", true)
def ty_Square : Nat → FieldType := fun k => match k with
  | 0 => .object "SharingRoom$Field"
  | 1 => .int
  | 2 => .int
  | _ => .int
theorem nm_Square : ∀ a, a < 4 → ∀ b, b < 4 → a ≠ b → (T_Square a).2.1 ≠ (T_Square b).2.1 := by decide +kernel
theorem tk_Square : ∀ k, k < 4 → parseFieldDescriptor (T_Square k).2.2.1 = some (ty_Square k) := by decide +kernel
set_option maxRecDepth 100000 in
theorem in_Square : ∀ w ∈ u_ws "SharingRoom$SquareGroup" T_Square 4, w ∈ jWS := by
  have h : u_ws "SharingRoom$SquareGroup" T_Square 4 = [Cond.laysFinal "SharingRoom$SquareGroup" "SharingRoom$Group" "exponents" "LSharingRoom$Field;", Cond.laysFinal "SharingRoom$SquareGroup" "SharingRoom$Group" "neutral" "I", Cond.laysFinal "SharingRoom$SquareGroup" "SharingRoom$Group" "g" "I", Cond.laysFinal "SharingRoom$SquareGroup" "SharingRoom$Group" "h" "I"] := by decide +kernel
  rw [h]
  exact List.forall_mem_cons.mpr ⟨jm 163 rfl rfl, List.forall_mem_cons.mpr ⟨jm 165 rfl rfl, List.forall_mem_cons.mpr ⟨jm 167 rfl rfl, List.forall_mem_cons.mpr ⟨jm 169 rfl rfl, fun _ h => absurd h List.not_mem_nil⟩⟩⟩⟩
def T_Mod : u_T := fun k => match k with
  | 0 => ("SharingRoomModel", "code", "I", false)
  | 1 => ("SharingRoomModel", "field", "I", false)
  | 2 => ("SharingRoomModel", "many", "I", false)
  | 3 => ("SharingRoomModel", "px", "[I", true)
  | 4 => ("SharingRoomModel", "py", "[I", true)
  | 5 => ("SharingRoomModel", "difference", "[I", true)
  | 6 => ("SharingRoomModel", "squares", "[I", true)
  | 7 => ("SharingRoomModel", "curve", "[I", true)
  | 8 => ("SharingRoomModel", "heights", "[I", true)
  | 9 => ("SharingRoomModel", "group", "I", false)
  | 10 => ("SharingRoomModel", "q", "I", false)
  | 11 => ("SharingRoomModel", "n", "I", false)
  | 12 => ("SharingRoomModel", "t", "I", false)
  | 13 => ("SharingRoomModel", "first", "I", false)
  | 14 => ("SharingRoomModel", "shown", "I", false)
  | 15 => ("SharingRoomModel", "there", "Z", false)
  | 16 => ("SharingRoomModel", "done", "Z", false)
  | 17 => ("SharingRoomModel", "failed", "Z", false)
  | 18 => ("SharingRoomModel", "round", "I", false)
  | 19 => ("SharingRoomModel", "a", "[I", true)
  | 20 => ("SharingRoomModel", "b", "[I", true)
  | 21 => ("SharingRoomModel", "faults", "[I", true)
  | 22 => ("SharingRoomModel", "crashes", "[I", true)
  | 23 => ("SharingRoomModel", "dealt", "I", false)
  | 24 => ("SharingRoomModel", "extracted", "I", false)
  | 25 => ("SharingRoomModel", "qualified", "I", false)
  | 26 => ("SharingRoomModel", "accused", "I", false)
  | 27 => ("SharingRoomModel", "opened", "I", false)
  | 28 => ("SharingRoomModel", "complaints", "[I", true)
  | 29 => ("SharingRoomModel", "answers", "[I", true)
  | 30 => ("SharingRoomModel", "u", "[I", true)
  | 31 => ("SharingRoomModel", "v", "[I", true)
  | 32 => ("SharingRoomModel", "answerU", "[I", true)
  | 33 => ("SharingRoomModel", "answerV", "[I", true)
  | 34 => ("SharingRoomModel", "c", "[I", true)
  | 35 => ("SharingRoomModel", "e", "[I", true)
  | 36 => ("SharingRoomModel", "shares", "[I", true)
  | 37 => ("SharingRoomModel", "blinds", "[I", true)
  | 38 => ("SharingRoomModel", "fresh", "[I", true)
  | 39 => ("SharingRoomModel", "key", "I", false)
  | 40 => ("SharingRoomModel", "size", "I", false)
  | 41 => ("SharingRoomModel", "bytes", "[I", true)
  | 42 => ("SharingRoomModel", "k1", "[I", true)
  | 43 => ("SharingRoomModel", "k2", "[I", true)
  | 44 => ("SharingRoomModel", "hash", "[I", true)
  | 45 => ("SharingRoomModel", "start", "[I", true)
  | 46 => ("SharingRoomModel", "word", "[I", true)
  | _ => ("SharingRoomModel", "turn", "[I", true)
def ty_Mod : Nat → FieldType := fun k => match k with
  | 0 => .int
  | 1 => .int
  | 2 => .int
  | 3 => .array .int
  | 4 => .array .int
  | 5 => .array .int
  | 6 => .array .int
  | 7 => .array .int
  | 8 => .array .int
  | 9 => .int
  | 10 => .int
  | 11 => .int
  | 12 => .int
  | 13 => .int
  | 14 => .int
  | 15 => .boolean
  | 16 => .boolean
  | 17 => .boolean
  | 18 => .int
  | 19 => .array .int
  | 20 => .array .int
  | 21 => .array .int
  | 22 => .array .int
  | 23 => .int
  | 24 => .int
  | 25 => .int
  | 26 => .int
  | 27 => .int
  | 28 => .array .int
  | 29 => .array .int
  | 30 => .array .int
  | 31 => .array .int
  | 32 => .array .int
  | 33 => .array .int
  | 34 => .array .int
  | 35 => .array .int
  | 36 => .array .int
  | 37 => .array .int
  | 38 => .array .int
  | 39 => .int
  | 40 => .int
  | 41 => .array .int
  | 42 => .array .int
  | 43 => .array .int
  | 44 => .array .int
  | 45 => .array .int
  | 46 => .array .int
  | _ => .array .int
theorem nm_Mod : ∀ a, a < 48 → ∀ b, b < 48 → a ≠ b → (T_Mod a).2.1 ≠ (T_Mod b).2.1 := by decide +kernel
theorem tk_Mod : ∀ k, k < 48 → parseFieldDescriptor (T_Mod k).2.2.1 = some (ty_Mod k) := by decide +kernel
set_option maxRecDepth 100000 in
theorem in_Mod : ∀ w ∈ u_ws "SharingRoomModel" T_Mod 48, w ∈ jWS := by
  have h : u_ws "SharingRoomModel" T_Mod 48 = [Cond.lays "SharingRoomModel" "SharingRoomModel" "code" "I", Cond.lays "SharingRoomModel" "SharingRoomModel" "field" "I", Cond.lays "SharingRoomModel" "SharingRoomModel" "many" "I", Cond.laysFinal "SharingRoomModel" "SharingRoomModel" "px" "[I", Cond.laysFinal "SharingRoomModel" "SharingRoomModel" "py" "[I", Cond.laysFinal "SharingRoomModel" "SharingRoomModel" "difference" "[I", Cond.laysFinal "SharingRoomModel" "SharingRoomModel" "squares" "[I", Cond.laysFinal "SharingRoomModel" "SharingRoomModel" "curve" "[I", Cond.laysFinal "SharingRoomModel" "SharingRoomModel" "heights" "[I", Cond.lays "SharingRoomModel" "SharingRoomModel" "group" "I", Cond.lays "SharingRoomModel" "SharingRoomModel" "q" "I", Cond.lays "SharingRoomModel" "SharingRoomModel" "n" "I", Cond.lays "SharingRoomModel" "SharingRoomModel" "t" "I", Cond.lays "SharingRoomModel" "SharingRoomModel" "first" "I", Cond.lays "SharingRoomModel" "SharingRoomModel" "shown" "I", Cond.lays "SharingRoomModel" "SharingRoomModel" "there" "Z", Cond.lays "SharingRoomModel" "SharingRoomModel" "done" "Z", Cond.lays "SharingRoomModel" "SharingRoomModel" "failed" "Z", Cond.lays "SharingRoomModel" "SharingRoomModel" "round" "I", Cond.laysFinal "SharingRoomModel" "SharingRoomModel" "a" "[I", Cond.laysFinal "SharingRoomModel" "SharingRoomModel" "b" "[I", Cond.laysFinal "SharingRoomModel" "SharingRoomModel" "faults" "[I", Cond.laysFinal "SharingRoomModel" "SharingRoomModel" "crashes" "[I", Cond.lays "SharingRoomModel" "SharingRoomModel" "dealt" "I", Cond.lays "SharingRoomModel" "SharingRoomModel" "extracted" "I", Cond.lays "SharingRoomModel" "SharingRoomModel" "qualified" "I", Cond.lays "SharingRoomModel" "SharingRoomModel" "accused" "I", Cond.lays "SharingRoomModel" "SharingRoomModel" "opened" "I", Cond.laysFinal "SharingRoomModel" "SharingRoomModel" "complaints" "[I", Cond.laysFinal "SharingRoomModel" "SharingRoomModel" "answers" "[I", Cond.laysFinal "SharingRoomModel" "SharingRoomModel" "u" "[I", Cond.laysFinal "SharingRoomModel" "SharingRoomModel" "v" "[I", Cond.laysFinal "SharingRoomModel" "SharingRoomModel" "answerU" "[I", Cond.laysFinal "SharingRoomModel" "SharingRoomModel" "answerV" "[I", Cond.laysFinal "SharingRoomModel" "SharingRoomModel" "c" "[I", Cond.laysFinal "SharingRoomModel" "SharingRoomModel" "e" "[I", Cond.laysFinal "SharingRoomModel" "SharingRoomModel" "shares" "[I", Cond.laysFinal "SharingRoomModel" "SharingRoomModel" "blinds" "[I", Cond.laysFinal "SharingRoomModel" "SharingRoomModel" "fresh" "[I", Cond.lays "SharingRoomModel" "SharingRoomModel" "key" "I", Cond.lays "SharingRoomModel" "SharingRoomModel" "size" "I", Cond.laysFinal "SharingRoomModel" "SharingRoomModel" "bytes" "[I", Cond.laysFinal "SharingRoomModel" "SharingRoomModel" "k1" "[I", Cond.laysFinal "SharingRoomModel" "SharingRoomModel" "k2" "[I", Cond.laysFinal "SharingRoomModel" "SharingRoomModel" "hash" "[I", Cond.laysFinal "SharingRoomModel" "SharingRoomModel" "start" "[I", Cond.laysFinal "SharingRoomModel" "SharingRoomModel" "word" "[I", Cond.laysFinal "SharingRoomModel" "SharingRoomModel" "turn" "[I"] := by decide +kernel
  rw [h]
  exact List.forall_mem_cons.mpr ⟨jm 1173 rfl rfl, List.forall_mem_cons.mpr ⟨jm 1175 rfl rfl, List.forall_mem_cons.mpr ⟨jm 1177 rfl rfl, List.forall_mem_cons.mpr ⟨jm 1179 rfl rfl, List.forall_mem_cons.mpr ⟨jm 1181 rfl rfl, List.forall_mem_cons.mpr ⟨jm 1183 rfl rfl, List.forall_mem_cons.mpr ⟨jm 1185 rfl rfl, List.forall_mem_cons.mpr ⟨jm 1187 rfl rfl, List.forall_mem_cons.mpr ⟨jm 1189 rfl rfl, List.forall_mem_cons.mpr ⟨jm 1191 rfl rfl, List.forall_mem_cons.mpr ⟨jm 1193 rfl rfl, List.forall_mem_cons.mpr ⟨jm 1195 rfl rfl, List.forall_mem_cons.mpr ⟨jm 1197 rfl rfl, List.forall_mem_cons.mpr ⟨jm 1199 rfl rfl, List.forall_mem_cons.mpr ⟨jm 1201 rfl rfl, List.forall_mem_cons.mpr ⟨jm 1203 rfl rfl, List.forall_mem_cons.mpr ⟨jm 1205 rfl rfl, List.forall_mem_cons.mpr ⟨jm 1207 rfl rfl, List.forall_mem_cons.mpr ⟨jm 1209 rfl rfl, List.forall_mem_cons.mpr ⟨jm 1211 rfl rfl, List.forall_mem_cons.mpr ⟨jm 1213 rfl rfl, List.forall_mem_cons.mpr ⟨jm 1215 rfl rfl, List.forall_mem_cons.mpr ⟨jm 1217 rfl rfl, List.forall_mem_cons.mpr ⟨jm 1219 rfl rfl, List.forall_mem_cons.mpr ⟨jm 1221 rfl rfl, List.forall_mem_cons.mpr ⟨jm 1223 rfl rfl, List.forall_mem_cons.mpr ⟨jm 1225 rfl rfl, List.forall_mem_cons.mpr ⟨jm 1227 rfl rfl, List.forall_mem_cons.mpr ⟨jm 1229 rfl rfl, List.forall_mem_cons.mpr ⟨jm 1231 rfl rfl, List.forall_mem_cons.mpr ⟨jm 1233 rfl rfl, List.forall_mem_cons.mpr ⟨jm 1235 rfl rfl, List.forall_mem_cons.mpr ⟨jm 1237 rfl rfl, List.forall_mem_cons.mpr ⟨jm 1239 rfl rfl, List.forall_mem_cons.mpr ⟨jm 1241 rfl rfl, List.forall_mem_cons.mpr ⟨jm 1243 rfl rfl, List.forall_mem_cons.mpr ⟨jm 1245 rfl rfl, List.forall_mem_cons.mpr ⟨jm 1247 rfl rfl, List.forall_mem_cons.mpr ⟨jm 1249 rfl rfl, List.forall_mem_cons.mpr ⟨jm 1251 rfl rfl, List.forall_mem_cons.mpr ⟨jm 1253 rfl rfl, List.forall_mem_cons.mpr ⟨jm 1255 rfl rfl, List.forall_mem_cons.mpr ⟨jm 1257 rfl rfl, List.forall_mem_cons.mpr ⟨jm 1259 rfl rfl, List.forall_mem_cons.mpr ⟨jm 1261 rfl rfl, List.forall_mem_cons.mpr ⟨jm 1263 rfl rfl, List.forall_mem_cons.mpr ⟨jm 1265 rfl rfl, List.forall_mem_cons.mpr ⟨jm 1267 rfl rfl, fun _ h => absurd h List.not_mem_nil⟩⟩⟩⟩⟩⟩⟩⟩⟩⟩⟩⟩⟩⟩⟩⟩⟩⟩⟩⟩⟩⟩⟩⟩⟩⟩⟩⟩⟩⟩⟩⟩⟩⟩⟩⟩⟩⟩⟩⟩⟩⟩⟩⟩⟩⟩⟩⟩
/-- the classes whose objects a world holds -/
abbrev vwCl : List vw_C := [("SharingRoom", T_SR, 3), ("SharingRoom$Board", T_Board, 3), ("SharingRoom$ByteField", T_Byte, 1), ("SharingRoom$CurveGroup", T_Curve, 5), ("SharingRoom$Party", T_Party, 10), ("SharingRoom$Points", T_Points, 5), ("SharingRoom$PrimeField", T_Prime, 1), ("SharingRoom$Room", T_Room, 15), ("SharingRoom$Sha256", T_Sha, 3), ("SharingRoom$SquareGroup", T_Square, 4), ("SharingRoomModel", T_Mod, 48)]
/-- class, code, locals, what it answers, name, handlers -/
abbrev jM : Type := String × ByteArray × Nat × Option FieldType × String × List (Nat × Nat × Nat × Nat)
end
section
def y_SR_init : MethodName := ⟨"SharingRoom", "<init>", "()V"⟩
def m_SR_init : jM := ("SharingRoom", prog_1_method_1_code, 3, none, "<init>", [])
def t_SR_init : List (Nat × Instr × Nat) := [(0, .aload_n 0, 1), (1, .invokespecial 1, 3), (4, .new 7, 3), (7, .dup, 1), (8, .sipush 1019, 3), (11, .invokespecial 9, 3), (14, .astore_n 1, 1), (15, .new 7, 3), (18, .dup, 1), (19, .bipush 31, 2), (21, .invokespecial 9, 3), (24, .astore_n 2, 1), (25, .aload_n 0, 1), (26, .iconst 3, 1), (27, .anewarray 12, 3), (30, .dup, 1), (31, .iconst 0, 1), (32, .new 14, 3), (35, .dup, 1), (36, .invokespecial 16, 3), (39, .aastore, 1), (40, .dup, 1), (41, .iconst 1, 1), (42, .aload_n 1, 1), (43, .aastore, 1), (44, .dup, 1), (45, .iconst 2, 1), (46, .aload_n 2, 1), (47, .aastore, 1), (48, .putfield 17, 3), (51, .aload_n 0, 1), (52, .new 23, 3), (55, .dup, 1), (56, .aload_n 0, 1), (57, .getfield 17, 3), (60, .iconst 0, 1), (61, .aaload, 1), (62, .invokespecial 25, 3), (65, .putfield 28, 3), (68, .aload_n 0, 1), (69, .new 32, 3), (72, .dup, 1), (73, .new 34, 3), (76, .dup, 1), (77, .aload_n 1, 1), (78, .invokespecial 36, 3), (81, .new 37, 3), (84, .dup, 1), (85, .aload_n 2, 1), (86, .invokespecial 39, 3), (89, .invokespecial 40, 3), (92, .putfield 43, 3), (95, .return_, 1)]
set_option maxRecDepth 100000 in
theorem k_SR_init : jDec m_SR_init.2.1 t_SR_init := by decide +kernel
def y_Prime_init : MethodName := ⟨"SharingRoom$PrimeField", "<init>", "(I)V"⟩
def m_Prime_init : jM := ("SharingRoom$PrimeField", prog_9_method_1_code, 2, none, "<init>", [])
def t_Prime_init : List (Nat × Instr × Nat) := [(0, .aload_n 0, 1), (1, .iload_n 1, 1), (2, .invokespecial 1, 3), (5, .return_, 1)]
set_option maxRecDepth 100000 in
theorem k_Prime_init : jDec m_Prime_init.2.1 t_Prime_init := by decide +kernel
def y_Field_init : MethodName := ⟨"SharingRoom$Field", "<init>", "(I)V"⟩
def m_Field_init : jM := ("SharingRoom$Field", prog_5_method_1_code, 2, none, "<init>", [])
def t_Field_init : List (Nat × Instr × Nat) := [(0, .aload_n 0, 1), (1, .invokespecial 1, 3), (4, .aload_n 0, 1), (5, .iload_n 1, 1), (6, .iconst 1, 1), (7, .if_icmp .le 7, 3), (10, .iload_n 1, 1), (11, .goto 4, 3), (14, .iconst 2, 1), (15, .putfield 7, 3), (18, .return_, 1)]
set_option maxRecDepth 100000 in
theorem k_Field_init : jDec m_Field_init.2.1 t_Field_init := by decide +kernel
def y_Byte_init : MethodName := ⟨"SharingRoom$ByteField", "<init>", "()V"⟩
def m_Byte_init : jM := ("SharingRoom$ByteField", prog_3_method_1_code, 1, none, "<init>", [])
def t_Byte_init : List (Nat × Instr × Nat) := [(0, .aload_n 0, 1), (1, .sipush 256, 3), (4, .invokespecial 1, 3), (7, .return_, 1)]
set_option maxRecDepth 100000 in
theorem k_Byte_init : jDec m_Byte_init.2.1 t_Byte_init := by decide +kernel
def y_Points_init : MethodName := ⟨"SharingRoom$Points", "<init>", "(LSharingRoom$Field;)V"⟩
def m_Points_init : jM := ("SharingRoom$Points", prog_8_method_1_code, 2, none, "<init>", [])
def t_Points_init : List (Nat × Instr × Nat) := [(0, .aload_n 0, 1), (1, .invokespecial 1, 3), (4, .aload_n 0, 1), (5, .bipush 12, 2), (7, .newarray .int, 2), (9, .putfield 9, 3), (12, .aload_n 0, 1), (13, .bipush 12, 2), (15, .newarray .int, 2), (17, .putfield 13, 3), (20, .aload_n 0, 1), (21, .bipush 12, 2), (23, .newarray .int, 2), (25, .putfield 16, 3), (28, .aload_n 0, 1), (29, .aload_n 1, 1), (30, .putfield 19, 3), (33, .return_, 1)]
set_option maxRecDepth 100000 in
theorem k_Points_init : jDec m_Points_init.2.1 t_Points_init := by decide +kernel
def y_Square_init : MethodName := ⟨"SharingRoom$SquareGroup", "<init>", "(LSharingRoom$Field;)V"⟩
def m_Square_init : jM := ("SharingRoom$SquareGroup", prog_12_method_1_code, 2, none, "<init>", [])
def t_Square_init : List (Nat × Instr × Nat) := [(0, .aload_n 0, 1), (1, .aload_n 1, 1), (2, .iconst 1, 1), (3, .iconst 4, 1), (4, .bipush 9, 2), (6, .invokespecial 1, 3), (9, .return_, 1)]
set_option maxRecDepth 100000 in
theorem k_Square_init : jDec m_Square_init.2.1 t_Square_init := by decide +kernel
def y_Group_init : MethodName := ⟨"SharingRoom$Group", "<init>", "(LSharingRoom$Field;III)V"⟩
def m_Group_init : jM := ("SharingRoom$Group", prog_6_method_1_code, 5, none, "<init>", [])
def t_Group_init : List (Nat × Instr × Nat) := [(0, .aload_n 0, 1), (1, .invokespecial 1, 3), (4, .aload_n 0, 1), (5, .aload_n 1, 1), (6, .putfield 7, 3), (9, .aload_n 0, 1), (10, .iload_n 2, 1), (11, .putfield 13, 3), (14, .aload_n 0, 1), (15, .iload_n 3, 1), (16, .putfield 17, 3), (19, .aload_n 0, 1), (20, .iload 4, 2), (22, .putfield 20, 3), (25, .return_, 1)]
set_option maxRecDepth 100000 in
theorem k_Group_init : jDec m_Group_init.2.1 t_Group_init := by decide +kernel
def y_Curve_init : MethodName := ⟨"SharingRoom$CurveGroup", "<init>", "(LSharingRoom$Field;)V"⟩
def m_Curve_init : jM := ("SharingRoom$CurveGroup", prog_4_method_1_code, 4, none, "<init>", [])
def t_Curve_init : List (Nat × Instr × Nat) := [(0, .aload_n 0, 1), (1, .aload_n 1, 1), (2, .sipush 4000, 3), (5, .sipush 140, 3), (8, .sipush 1362, 3), (11, .invokespecial 1, 3), (14, .aload_n 0, 1), (15, .bipush 43, 2), (17, .newarray .int, 2), (19, .putfield 9, 3), (22, .iconst 1, 1), (23, .istore_n 2, 1), (24, .iload_n 2, 1), (25, .bipush 43, 2), (27, .if_icmp .ge 40, 3), (30, .iconst 1, 1), (31, .istore_n 3, 1), (32, .iload_n 3, 1), (33, .bipush 43, 2), (35, .if_icmp .ge 26, 3), (38, .iload_n 2, 1), (39, .iload_n 3, 1), (40, .imul, 1), (41, .bipush 43, 2), (43, .irem, 1), (44, .iconst 1, 1), (45, .if_icmp .ne 10, 3), (48, .aload_n 0, 1), (49, .getfield 9, 3), (52, .iload_n 2, 1), (53, .iload_n 3, 1), (54, .iastore, 1), (55, .iinc 3 1, 3), (58, .goto (-26), 3), (61, .iinc 2 1, 3), (64, .goto (-40), 3), (67, .return_, 1)]
set_option maxRecDepth 100000 in
theorem k_Curve_init : jDec m_Curve_init.2.1 t_Curve_init := by decide +kernel
def y_Room_init : MethodName := ⟨"SharingRoom$Room", "<init>", "(LSharingRoom$Group;LSharingRoom$Group;)V"⟩
def m_Room_init : jM := ("SharingRoom$Room", prog_10_method_1_code, 4, none, "<init>", [])
def t_Room_init : List (Nat × Instr × Nat) := [(0, .aload_n 0, 1), (1, .invokespecial 3, 3), (4, .aload_n 0, 1), (5, .bipush 7, 2), (7, .anewarray 9, 3), (10, .putfield 11, 3), (13, .aload_n 0, 1), (14, .new 17, 3), (17, .dup, 1), (18, .invokespecial 19, 3), (21, .putfield 20, 3), (24, .aload_n 0, 1), (25, .bipush 8, 2), (27, .newarray .int, 2), (29, .putfield 24, 3), (32, .aload_n 0, 1), (33, .iconst 2, 1), (34, .anewarray 28, 3), (37, .dup, 1), (38, .iconst 0, 1), (39, .aload_n 1, 1), (40, .aastore, 1), (41, .dup, 1), (42, .iconst 1, 1), (43, .aload_n 2, 1), (44, .aastore, 1), (45, .putfield 30, 3), (48, .aload_n 0, 1), (49, .aload_n 1, 1), (50, .putfield 34, 3), (53, .aload_n 0, 1), (54, .aload_n 1, 1), (55, .getfield 38, 3), (58, .putfield 42, 3), (61, .aload_n 0, 1), (62, .new 45, 3), (65, .dup, 1), (66, .aload_n 0, 1), (67, .getfield 42, 3), (70, .invokespecial 47, 3), (73, .putfield 50, 3), (76, .iconst 0, 1), (77, .istore_n 3, 1), (78, .iload_n 3, 1), (79, .bipush 7, 2), (81, .if_icmp .ge 22, 3), (84, .aload_n 0, 1), (85, .getfield 11, 3), (88, .iload_n 3, 1), (89, .new 9, 3), (92, .dup, 1), (93, .invokespecial 54, 3), (96, .aastore, 1), (97, .iinc 3 1, 3), (100, .goto (-22), 3), (103, .return_, 1)]
set_option maxRecDepth 100000 in
theorem k_Room_init : jDec m_Room_init.2.1 t_Room_init := by decide +kernel
def y_Board_init : MethodName := ⟨"SharingRoom$Board", "<init>", "()V"⟩
def m_Board_init : jM := ("SharingRoom$Board", prog_2_method_1_code, 1, none, "<init>", [])
def t_Board_init : List (Nat × Instr × Nat) := [(0, .aload_n 0, 1), (1, .invokespecial 1, 3), (4, .aload_n 0, 1), (5, .sipush 1050, 3), (8, .newarray .byte, 2), (10, .putfield 9, 3), (13, .aload_n 0, 1), (14, .new 13, 3), (17, .dup, 1), (18, .invokespecial 15, 3), (21, .putfield 16, 3), (24, .return_, 1)]
set_option maxRecDepth 100000 in
theorem k_Board_init : jDec m_Board_init.2.1 t_Board_init := by decide +kernel
def y_Sha_init : MethodName := ⟨"SharingRoom$Sha256", "<init>", "()V"⟩
def m_Sha_init : jM := ("SharingRoom$Sha256", prog_11_method_1_code, 1, none, "<init>", [])
def t_Sha_init : List (Nat × Instr × Nat) := [(0, .aload_n 0, 1), (1, .invokespecial 1, 3), (4, .aload_n 0, 1), (5, .bipush 64, 2), (7, .newarray .int, 2), (9, .putfield 9, 3), (12, .aload_n 0, 1), (13, .bipush 8, 2), (15, .newarray .int, 2), (17, .putfield 13, 3), (20, .aload_n 0, 1), (21, .bipush 8, 2), (23, .newarray .int, 2), (25, .putfield 16, 3), (28, .return_, 1)]
set_option maxRecDepth 100000 in
theorem k_Sha_init : jDec m_Sha_init.2.1 t_Sha_init := by decide +kernel
def y_Party_init : MethodName := ⟨"SharingRoom$Party", "<init>", "()V"⟩
def m_Party_init : jM := ("SharingRoom$Party", prog_7_method_1_code, 1, none, "<init>", [])
def t_Party_init : List (Nat × Instr × Nat) := [(0, .aload_n 0, 1), (1, .invokespecial 3, 3), (4, .aload_n 0, 1), (5, .iconst 2, 1), (6, .bipush 7, 2), (8, .multianewarray 9 2, 4), (12, .putfield 11, 3), (15, .aload_n 0, 1), (16, .bipush 7, 2), (18, .newarray .int, 2), (20, .putfield 16, 3), (23, .aload_n 0, 1), (24, .iconst 2, 1), (25, .bipush 7, 2), (27, .multianewarray 9 2, 4), (31, .putfield 20, 3), (34, .aload_n 0, 1), (35, .iconst 2, 1), (36, .bipush 8, 2), (38, .multianewarray 9 2, 4), (42, .putfield 23, 3), (45, .aload_n 0, 1), (46, .iconst 2, 1), (47, .bipush 8, 2), (49, .multianewarray 9 2, 4), (53, .putfield 26, 3), (56, .aload_n 0, 1), (57, .iconst 2, 1), (58, .newarray .int, 2), (60, .putfield 29, 3), (63, .return_, 1)]
set_option maxRecDepth 100000 in
theorem k_Party_init : jDec m_Party_init.2.1 t_Party_init := by decide +kernel
def y_SR_degree : MethodName := ⟨"SharingRoom", "degree", "()I"⟩
def m_SR_degree : jM := ("SharingRoom", prog_1_method_5_code, 1, (some FieldType.int), "degree", [])
def t_SR_degree : List (Nat × Instr × Nat) := [(0, .aload_n 0, 1), (1, .getfield 28, 3), (4, .invokevirtual 91, 3), (7, .ireturn, 1)]
set_option maxRecDepth 100000 in
theorem k_SR_degree : jDec m_SR_degree.2.1 t_SR_degree := by decide +kernel
def y_Points_countCoefficients : MethodName := ⟨"SharingRoom$Points", "countCoefficients", "()I"⟩
def m_Points_countCoefficients : jM := ("SharingRoom$Points", prog_8_method_10_code, 5, (some FieldType.int), "countCoefficients", [])
def t_Points_countCoefficients : List (Nat × Instr × Nat) := [(0, .aload_n 0, 1), (1, .getfield 13, 3), (4, .iconst 0, 1), (5, .aload_n 0, 1), (6, .getfield 16, 3), (9, .iconst 0, 1), (10, .aload_n 0, 1), (11, .getfield 23, 3), (14, .invokestatic 50, 3), (17, .iconst 1, 1), (18, .istore_n 1, 1), (19, .iload_n 1, 1), (20, .aload_n 0, 1), (21, .getfield 23, 3), (24, .if_icmp .ge 95, 3), (27, .aload_n 0, 1), (28, .getfield 23, 3), (31, .iconst 1, 1), (32, .isub, 1), (33, .istore_n 2, 1), (34, .iload_n 2, 1), (35, .iload_n 1, 1), (36, .if_icmp .lt 77, 3), (39, .aload_n 0, 1), (40, .getfield 19, 3), (43, .aload_n 0, 1), (44, .getfield 16, 3), (47, .iload_n 2, 1), (48, .iaload, 1), (49, .aload_n 0, 1), (50, .getfield 16, 3), (53, .iload_n 2, 1), (54, .iconst 1, 1), (55, .isub, 1), (56, .iaload, 1), (57, .invokevirtual 43, 3), (60, .istore_n 3, 1), (61, .aload_n 0, 1), (62, .getfield 19, 3), (65, .aload_n 0, 1), (66, .getfield 9, 3), (69, .iload_n 2, 1), (70, .iaload, 1), (71, .aload_n 0, 1), (72, .getfield 9, 3), (75, .iload_n 2, 1), (76, .iload_n 1, 1), (77, .isub, 1), (78, .iaload, 1), (79, .invokevirtual 43, 3), (82, .istore 4, 2), (84, .aload_n 0, 1), (85, .getfield 16, 3), (88, .iload_n 2, 1), (89, .aload_n 0, 1), (90, .getfield 19, 3), (93, .iload_n 3, 1), (94, .aload_n 0, 1), (95, .getfield 19, 3), (98, .iload 4, 2), (100, .invokevirtual 46, 3), (103, .invokevirtual 37, 3), (106, .iastore, 1), (107, .iinc 2 (-1), 3), (110, .goto (-76), 3), (113, .iinc 1 1, 3), (116, .goto (-97), 3), (119, .aload_n 0, 1), (120, .getfield 23, 3), (123, .istore_n 1, 1), (124, .iload_n 1, 1), (125, .ifCond .le 20, 3), (128, .aload_n 0, 1), (129, .getfield 16, 3), (132, .iload_n 1, 1), (133, .iconst 1, 1), (134, .isub, 1), (135, .iaload, 1), (136, .ifCond .ne 9, 3), (139, .iinc 1 (-1), 3), (142, .goto (-18), 3), (145, .iload_n 1, 1), (146, .ireturn, 1)]
set_option maxRecDepth 100000 in
theorem k_Points_countCoefficients : jDec m_Points_countCoefficients.2.1 t_Points_countCoefficients := by decide +kernel
def y_Byte_minus : MethodName := ⟨"SharingRoom$ByteField", "minus", "(II)I"⟩
def m_Byte_minus : jM := ("SharingRoom$ByteField", prog_3_method_3_code, 3, (some FieldType.int), "minus", [])
def t_Byte_minus : List (Nat × Instr × Nat) := [(0, .iload_n 1, 1), (1, .iload_n 2, 1), (2, .ixor, 1), (3, .ireturn, 1)]
set_option maxRecDepth 100000 in
theorem k_Byte_minus : jDec m_Byte_minus.2.1 t_Byte_minus := by decide +kernel
def y_Prime_minus : MethodName := ⟨"SharingRoom$PrimeField", "minus", "(II)I"⟩
def m_Prime_minus : jM := ("SharingRoom$PrimeField", prog_9_method_3_code, 3, (some FieldType.int), "minus", [])
def t_Prime_minus : List (Nat × Instr × Nat) := [(0, .iload_n 1, 1), (1, .iload_n 2, 1), (2, .isub, 1), (3, .aload_n 0, 1), (4, .getfield 7, 3), (7, .iadd, 1), (8, .aload_n 0, 1), (9, .getfield 7, 3), (12, .irem, 1), (13, .ireturn, 1)]
set_option maxRecDepth 100000 in
theorem k_Prime_minus : jDec m_Prime_minus.2.1 t_Prime_minus := by decide +kernel
def y_Field_inverse : MethodName := ⟨"SharingRoom$Field", "inverse", "(I)I"⟩
def m_Field_inverse : jM := ("SharingRoom$Field", prog_5_method_6_code, 5, (some FieldType.int), "inverse", [])
def t_Field_inverse : List (Nat × Instr × Nat) := [(0, .iconst 1, 1), (1, .istore_n 2, 1), (2, .iload_n 1, 1), (3, .istore_n 3, 1), (4, .aload_n 0, 1), (5, .getfield 7, 3), (8, .iconst 2, 1), (9, .isub, 1), (10, .istore 4, 2), (12, .iload 4, 2), (14, .ifCond .le 34, 3), (17, .iload 4, 2), (19, .iconst 1, 1), (20, .iand, 1), (21, .iconst 1, 1), (22, .if_icmp .ne 10, 3), (25, .aload_n 0, 1), (26, .iload_n 2, 1), (27, .iload_n 3, 1), (28, .invokevirtual 13, 3), (31, .istore_n 2, 1), (32, .aload_n 0, 1), (33, .iload_n 3, 1), (34, .iload_n 3, 1), (35, .invokevirtual 13, 3), (38, .istore_n 3, 1), (39, .iload 4, 2), (41, .iconst 1, 1), (42, .ishr, 1), (43, .istore 4, 2), (45, .goto (-33), 3), (48, .iload_n 2, 1), (49, .ireturn, 1)]
set_option maxRecDepth 100000 in
theorem k_Field_inverse : jDec m_Field_inverse.2.1 t_Field_inverse := by decide +kernel
def y_Byte_times : MethodName := ⟨"SharingRoom$ByteField", "times", "(II)I"⟩
def m_Byte_times : jM := ("SharingRoom$ByteField", prog_3_method_4_code, 6, (some FieldType.int), "times", [])
def t_Byte_times : List (Nat × Instr × Nat) := [(0, .iconst 0, 1), (1, .istore_n 3, 1), (2, .iload_n 1, 1), (3, .istore 4, 2), (5, .iconst 0, 1), (6, .istore 5, 2), (8, .iload 5, 2), (10, .bipush 8, 2), (12, .if_icmp .ge 46, 3), (15, .iload_n 2, 1), (16, .iload 5, 2), (18, .ishr, 1), (19, .iconst 1, 1), (20, .iand, 1), (21, .iconst 1, 1), (22, .if_icmp .ne 8, 3), (25, .iload_n 3, 1), (26, .iload 4, 2), (28, .ixor, 1), (29, .istore_n 3, 1), (30, .iload 4, 2), (32, .iconst 1, 1), (33, .ishl, 1), (34, .istore 4, 2), (36, .iload 4, 2), (38, .sipush 255, 3), (41, .if_icmp .le 11, 3), (44, .iload 4, 2), (46, .sipush 283, 3), (49, .ixor, 1), (50, .istore 4, 2), (52, .iinc 5 1, 3), (55, .goto (-47), 3), (58, .iload_n 3, 1), (59, .ireturn, 1)]
set_option maxRecDepth 100000 in
theorem k_Byte_times : jDec m_Byte_times.2.1 t_Byte_times := by decide +kernel
def y_Prime_times : MethodName := ⟨"SharingRoom$PrimeField", "times", "(II)I"⟩
def m_Prime_times : jM := ("SharingRoom$PrimeField", prog_9_method_4_code, 3, (some FieldType.int), "times", [])
def t_Prime_times : List (Nat × Instr × Nat) := [(0, .iload_n 1, 1), (1, .iload_n 2, 1), (2, .imul, 1), (3, .aload_n 0, 1), (4, .getfield 7, 3), (7, .irem, 1), (8, .ireturn, 1)]
set_option maxRecDepth 100000 in
theorem k_Prime_times : jDec m_Prime_times.2.1 t_Prime_times := by decide +kernel
def y_SR_state : MethodName := ⟨"SharingRoom", "state", "()I"⟩
def m_SR_state : jM := ("SharingRoom", prog_1_method_11_code, 1, (some FieldType.int), "state", [])
def t_SR_state : List (Nat × Instr × Nat) := [(0, .aload_n 0, 1), (1, .getfield 43, 3), (4, .invokevirtual 145, 3), (7, .ireturn, 1)]
set_option maxRecDepth 100000 in
theorem k_SR_state : jDec m_SR_state.2.1 t_SR_state := by decide +kernel
def y_Room_stage : MethodName := ⟨"SharingRoom$Room", "stage", "()I"⟩
def m_Room_stage : jM := ("SharingRoom$Room", prog_10_method_13_code, 1, (some FieldType.int), "stage", [])
def t_Room_stage : List (Nat × Instr × Nat) := [(0, .aload_n 0, 1), (1, .getfield 72, 3), (4, .ireturn, 1)]
set_option maxRecDepth 100000 in
theorem k_Room_stage : jDec m_Room_stage.2.1 t_Room_stage := by decide +kernel
def y_SR_parties : MethodName := ⟨"SharingRoom", "parties", "(I)I"⟩
def m_SR_parties : jM := ("SharingRoom", prog_1_method_12_code, 2, (some FieldType.int), "parties", [])
def t_SR_parties : List (Nat × Instr × Nat) := [(0, .iload_n 1, 1), (1, .tableswitch 63 0 3 #[31, 39, 47, 55], 31), (32, .aload_n 0, 1), (33, .getfield 43, 3), (36, .invokevirtual 153, 3), (39, .ireturn, 1), (40, .aload_n 0, 1), (41, .getfield 43, 3), (44, .invokevirtual 156, 3), (47, .ireturn, 1), (48, .aload_n 0, 1), (49, .getfield 43, 3), (52, .invokevirtual 159, 3), (55, .ireturn, 1), (56, .aload_n 0, 1), (57, .getfield 43, 3), (60, .invokevirtual 162, 3), (63, .ireturn, 1), (64, .iconst (-1), 1), (65, .ireturn, 1)]
set_option maxRecDepth 100000 in
theorem k_SR_parties : jDec m_SR_parties.2.1 t_SR_parties := by decide +kernel
def y_Room_qualifiedBits : MethodName := ⟨"SharingRoom$Room", "qualifiedBits", "()I"⟩
def m_Room_qualifiedBits : jM := ("SharingRoom$Room", prog_10_method_16_code, 1, (some FieldType.int), "qualifiedBits", [])
def t_Room_qualifiedBits : List (Nat × Instr × Nat) := [(0, .aload_n 0, 1), (1, .getfield 78, 3), (4, .aload_n 0, 1), (5, .invokevirtual 62, 3), (8, .iand, 1), (9, .ireturn, 1)]
set_option maxRecDepth 100000 in
theorem k_Room_qualifiedBits : jDec m_Room_qualifiedBits.2.1 t_Room_qualifiedBits := by decide +kernel
def y_Room_everybody : MethodName := ⟨"SharingRoom$Room", "everybody", "()I"⟩
def m_Room_everybody : jM := ("SharingRoom$Room", prog_10_method_52_code, 1, (some FieldType.int), "everybody", [])
def t_Room_everybody : List (Nat × Instr × Nat) := [(0, .iconst 1, 1), (1, .aload_n 0, 1), (2, .getfield 55, 3), (5, .ishl, 1), (6, .iconst 1, 1), (7, .isub, 1), (8, .ireturn, 1)]
set_option maxRecDepth 100000 in
theorem k_Room_everybody : jDec m_Room_everybody.2.1 t_Room_everybody := by decide +kernel
def y_Room_accusedBits : MethodName := ⟨"SharingRoom$Room", "accusedBits", "()I"⟩
def m_Room_accusedBits : jM := ("SharingRoom$Room", prog_10_method_17_code, 1, (some FieldType.int), "accusedBits", [])
def t_Room_accusedBits : List (Nat × Instr × Nat) := [(0, .aload_n 0, 1), (1, .getfield 81, 3), (4, .aload_n 0, 1), (5, .invokevirtual 62, 3), (8, .iand, 1), (9, .ireturn, 1)]
set_option maxRecDepth 100000 in
theorem k_Room_accusedBits : jDec m_Room_accusedBits.2.1 t_Room_accusedBits := by decide +kernel
def y_Room_openedBits : MethodName := ⟨"SharingRoom$Room", "openedBits", "()I"⟩
def m_Room_openedBits : jM := ("SharingRoom$Room", prog_10_method_18_code, 1, (some FieldType.int), "openedBits", [])
def t_Room_openedBits : List (Nat × Instr × Nat) := [(0, .aload_n 0, 1), (1, .getfield 84, 3), (4, .aload_n 0, 1), (5, .invokevirtual 62, 3), (8, .iand, 1), (9, .ireturn, 1)]
set_option maxRecDepth 100000 in
theorem k_Room_openedBits : jDec m_Room_openedBits.2.1 t_Room_openedBits := by decide +kernel
def y_Room_workingBits : MethodName := ⟨"SharingRoom$Room", "workingBits", "()I"⟩
def m_Room_workingBits : jM := ("SharingRoom$Room", prog_10_method_19_code, 4, (some FieldType.int), "workingBits", [])
def t_Room_workingBits : List (Nat × Instr × Nat) := [(0, .iconst 0, 1), (1, .istore_n 1, 1), (2, .iconst 1, 1), (3, .istore_n 2, 1), (4, .iload_n 2, 1), (5, .aload_n 0, 1), (6, .getfield 55, 3), (9, .if_icmp .gt 54, 3), (12, .aload_n 0, 1), (13, .getfield 72, 3), (16, .iconst 1, 1), (17, .if_icmp .ne 20, 3), (20, .aload_n 0, 1), (21, .iload_n 2, 1), (22, .invokevirtual 96, 3), (25, .aload_n 0, 1), (26, .getfield 75, 3), (29, .iconst 1, 1), (30, .iadd, 1), (31, .invokevirtual 122, 3), (34, .goto 11, 3), (37, .aload_n 0, 1), (38, .iload_n 2, 1), (39, .invokevirtual 96, 3), (42, .invokevirtual 126, 3), (45, .istore_n 3, 1), (46, .iload_n 3, 1), (47, .ifCond .eq 10, 3), (50, .iload_n 1, 1), (51, .iload_n 2, 1), (52, .invokestatic 130, 3), (55, .ior, 1), (56, .istore_n 1, 1), (57, .iinc 2 1, 3), (60, .goto (-56), 3), (63, .iload_n 1, 1), (64, .ireturn, 1)]
set_option maxRecDepth 100000 in
theorem k_Room_workingBits : jDec m_Room_workingBits.2.1 t_Room_workingBits := by decide +kernel
def y_Room_party : MethodName := ⟨"SharingRoom$Room", "party", "(I)LSharingRoom$Party;"⟩
def m_Room_party : jM := ("SharingRoom$Room", prog_10_method_53_code, 2, (some (FieldType.object "SharingRoom$Party")), "party", [])
def t_Room_party : List (Nat × Instr × Nat) := [(0, .aload_n 0, 1), (1, .getfield 11, 3), (4, .iload_n 1, 1), (5, .iconst 1, 1), (6, .isub, 1), (7, .aaload, 1), (8, .areturn, 1)]
set_option maxRecDepth 100000 in
theorem k_Room_party : jDec m_Room_party.2.1 t_Room_party := by decide +kernel
def y_Party_worksIn : MethodName := ⟨"SharingRoom$Party", "worksIn", "(I)Z"⟩
def m_Party_worksIn : jM := ("SharingRoom$Party", prog_7_method_5_code, 2, (some FieldType.boolean), "worksIn", [])
def t_Party_worksIn : List (Nat × Instr × Nat) := [(0, .iload_n 1, 1), (1, .aload_n 0, 1), (2, .getfield 52, 3), (5, .if_icmp .ge 7, 3), (8, .iconst 1, 1), (9, .goto 4, 3), (12, .iconst 0, 1), (13, .ireturn, 1)]
set_option maxRecDepth 100000 in
theorem k_Party_worksIn : jDec m_Party_worksIn.2.1 t_Party_worksIn := by decide +kernel
def y_Party_neverCrashes : MethodName := ⟨"SharingRoom$Party", "neverCrashes", "()Z"⟩
def m_Party_neverCrashes : jM := ("SharingRoom$Party", prog_7_method_6_code, 1, (some FieldType.boolean), "neverCrashes", [])
def t_Party_neverCrashes : List (Nat × Instr × Nat) := [(0, .aload_n 0, 1), (1, .getfield 52, 3), (4, .bipush 8, 2), (6, .if_icmp .ne 7, 3), (9, .iconst 1, 1), (10, .goto 4, 3), (13, .iconst 0, 1), (14, .ireturn, 1)]
set_option maxRecDepth 100000 in
theorem k_Party_neverCrashes : jDec m_Party_neverCrashes.2.1 t_Party_neverCrashes := by decide +kernel
def y_SR_bit : MethodName := ⟨"SharingRoom", "bit", "(I)I"⟩
def m_SR_bit : jM := ("SharingRoom", prog_1_method_30_code, 1, (some FieldType.int), "bit", [])
def t_SR_bit : List (Nat × Instr × Nat) := [(0, .iconst 1, 1), (1, .iload_n 0, 1), (2, .iconst 1, 1), (3, .isub, 1), (4, .ishl, 1), (5, .ireturn, 1)]
set_option maxRecDepth 100000 in
theorem k_SR_bit : jDec m_SR_bit.2.1 t_SR_bit := by decide +kernel
def y_SR_board : MethodName := ⟨"SharingRoom", "board", "()I"⟩
def m_SR_board : jM := ("SharingRoom", prog_1_method_17_code, 1, (some FieldType.int), "board", [])
def t_SR_board : List (Nat × Instr × Nat) := [(0, .aload_n 0, 1), (1, .getfield 43, 3), (4, .invokevirtual 179, 3), (7, .invokevirtual 183, 3), (10, .ireturn, 1)]
set_option maxRecDepth 100000 in
theorem k_SR_board : jDec m_SR_board.2.1 t_SR_board := by decide +kernel
def y_Room_shownToAll : MethodName := ⟨"SharingRoom$Room", "shownToAll", "()LSharingRoom$Board;"⟩
def m_Room_shownToAll : jM := ("SharingRoom$Room", prog_10_method_14_code, 1, (some (FieldType.object "SharingRoom$Board")), "shownToAll", [])
def t_Room_shownToAll : List (Nat × Instr × Nat) := [(0, .aload_n 0, 1), (1, .getfield 20, 3), (4, .areturn, 1)]
set_option maxRecDepth 100000 in
theorem k_Room_shownToAll : jDec m_Room_shownToAll.2.1 t_Room_shownToAll := by decide +kernel
def y_Board_size : MethodName := ⟨"SharingRoom$Board", "size", "()I"⟩
def m_Board_size : jM := ("SharingRoom$Board", prog_2_method_3_code, 1, (some FieldType.int), "size", [])
def t_Board_size : List (Nat × Instr × Nat) := [(0, .aload_n 0, 1), (1, .getfield 20, 3), (4, .ireturn, 1)]
set_option maxRecDepth 100000 in
theorem k_Board_size : jDec m_Board_size.2.1 t_Board_size := by decide +kernel
def y_SR_key : MethodName := ⟨"SharingRoom", "key", "()I"⟩
def m_SR_key : jM := ("SharingRoom", prog_1_method_20_code, 1, (some FieldType.int), "key", [])
def t_SR_key : List (Nat × Instr × Nat) := [(0, .aload_n 0, 1), (1, .getfield 43, 3), (4, .invokevirtual 145, 3), (7, .iconst 2, 1), (8, .if_icmp .ne 13, 3), (11, .aload_n 0, 1), (12, .getfield 43, 3), (15, .invokevirtual 201, 3), (18, .goto 4, 3), (21, .iconst (-1), 1), (22, .ireturn, 1)]
set_option maxRecDepth 100000 in
theorem k_SR_key : jDec m_SR_key.2.1 t_SR_key := by decide +kernel
def y_Room_commonKey : MethodName := ⟨"SharingRoom$Room", "commonKey", "()I"⟩
def m_Room_commonKey : jM := ("SharingRoom$Room", prog_10_method_15_code, 1, (some FieldType.int), "commonKey", [])
def t_Room_commonKey : List (Nat × Instr × Nat) := [(0, .aload_n 0, 1), (1, .getfield 90, 3), (4, .ireturn, 1)]
set_option maxRecDepth 100000 in
theorem k_Room_commonKey : jDec m_Room_commonKey.2.1 t_Room_commonKey := by decide +kernel
def y_Law_field : MethodName := ⟨"SharingRoomLaw", "field", "(LSharingRoom;I)I"⟩
def m_Law_field : jM := ("SharingRoomLaw", method_3_code, 3, (some FieldType.int), "field", [(0, 5, 8, 13)])
def t_Law_field : List (Nat × Instr × Nat) := [(0, .aload_n 0, 1), (1, .iload_n 1, 1), (2, .invokevirtual 7, 3), (5, .goto 6, 3), (8, .astore_n 2, 1), (9, .iconst 1, 1), (10, .ireturn, 1), (11, .iconst 0, 1), (12, .ireturn, 1)]
set_option maxRecDepth 100000 in
theorem k_Law_field : jDec m_Law_field.2.1 t_Law_field := by decide +kernel
def y_SR_field : MethodName := ⟨"SharingRoom", "field", "(I)V"⟩
def m_SR_field : jM := ("SharingRoom", prog_1_method_2_code, 2, none, "field", [])
def t_SR_field : List (Nat × Instr × Nat) := [(0, .iload_n 1, 1), (1, .ifCond .lt 12, 3), (4, .iload_n 1, 1), (5, .aload_n 0, 1), (6, .getfield 17, 3), (9, .arraylength, 1), (10, .if_icmp .lt 13, 3), (13, .new 47, 3), (16, .dup, 1), (17, .ldc 49, 2), (19, .invokespecial 51, 3), (22, .athrow, 1), (23, .aload_n 0, 1), (24, .getfield 28, 3), (27, .aload_n 0, 1), (28, .getfield 17, 3), (31, .iload_n 1, 1), (32, .aaload, 1), (33, .invokevirtual 54, 3), (36, .return_, 1)]
set_option maxRecDepth 100000 in
theorem k_SR_field : jDec m_SR_field.2.1 t_SR_field := by decide +kernel
def y_Points_clear : MethodName := ⟨"SharingRoom$Points", "clear", "(LSharingRoom$Field;)V"⟩
def m_Points_clear : jM := ("SharingRoom$Points", prog_8_method_2_code, 2, none, "clear", [])
def t_Points_clear : List (Nat × Instr × Nat) := [(0, .aload_n 0, 1), (1, .aload_n 1, 1), (2, .putfield 19, 3), (5, .aload_n 0, 1), (6, .iconst 0, 1), (7, .putfield 23, 3), (10, .return_, 1)]
set_option maxRecDepth 100000 in
theorem k_Points_clear : jDec m_Points_clear.2.1 t_Points_clear := by decide +kernel
def y_Law_point : MethodName := ⟨"SharingRoomLaw", "point", "(LSharingRoom;II[J)I"⟩
def m_Law_point : jM := ("SharingRoomLaw", method_4_code, 5, (some FieldType.int), "point", [(0, 10, 13, 13), (0, 10, 17, 19)])
def t_Law_point : List (Nat × Instr × Nat) := [(0, .aload_n 3, 1), (1, .iconst 0, 1), (2, .aload_n 0, 1), (3, .iload_n 1, 1), (4, .iload_n 2, 1), (5, .invokevirtual 15, 3), (8, .i2l, 1), (9, .lastore, 1), (10, .goto 11, 3), (13, .astore 4, 2), (15, .iconst 1, 1), (16, .ireturn, 1), (17, .astore 4, 2), (19, .iconst 2, 1), (20, .ireturn, 1), (21, .iconst 0, 1), (22, .ireturn, 1)]
set_option maxRecDepth 100000 in
theorem k_Law_point : jDec m_Law_point.2.1 t_Law_point := by decide +kernel
def y_SR_point : MethodName := ⟨"SharingRoom", "point", "(II)I"⟩
def m_SR_point : jM := ("SharingRoom", prog_1_method_3_code, 3, (some FieldType.int), "point", [])
def t_SR_point : List (Nat × Instr × Nat) := [(0, .iload_n 1, 1), (1, .iconst 1, 1), (2, .if_icmp .lt 25, 3), (5, .aload_n 0, 1), (6, .getfield 28, 3), (9, .iload_n 1, 1), (10, .invokevirtual 57, 3), (13, .ifCond .eq 14, 3), (16, .aload_n 0, 1), (17, .getfield 28, 3), (20, .iload_n 2, 1), (21, .invokevirtual 57, 3), (24, .ifCond .ne 13, 3), (27, .new 47, 3), (30, .dup, 1), (31, .ldc 61, 2), (33, .invokespecial 51, 3), (36, .athrow, 1), (37, .aload_n 0, 1), (38, .getfield 28, 3), (41, .iload_n 1, 1), (42, .invokevirtual 63, 3), (45, .ifCond .ne 13, 3), (48, .aload_n 0, 1), (49, .getfield 28, 3), (52, .invokevirtual 66, 3), (55, .ifCond .eq 13, 3), (58, .new 70, 3), (61, .dup, 1), (62, .ldc 72, 2), (64, .invokespecial 74, 3), (67, .athrow, 1), (68, .aload_n 0, 1), (69, .getfield 28, 3), (72, .iload_n 1, 1), (73, .iload_n 2, 1), (74, .invokevirtual 75, 3), (77, .aload_n 0, 1), (78, .getfield 28, 3), (81, .invokevirtual 79, 3), (84, .ireturn, 1)]
set_option maxRecDepth 100000 in
theorem k_SR_point : jDec m_SR_point.2.1 t_SR_point := by decide +kernel
def y_Points_inField : MethodName := ⟨"SharingRoom$Points", "inField", "(I)Z"⟩
def m_Points_inField : jM := ("SharingRoom$Points", prog_8_method_5_code, 2, (some FieldType.boolean), "inField", [])
def t_Points_inField : List (Nat × Instr × Nat) := [(0, .aload_n 0, 1), (1, .getfield 19, 3), (4, .iload_n 1, 1), (5, .invokevirtual 27, 3), (8, .ireturn, 1)]
set_option maxRecDepth 100000 in
theorem k_Points_inField : jDec m_Points_inField.2.1 t_Points_inField := by decide +kernel
def y_Field_has : MethodName := ⟨"SharingRoom$Field", "has", "(I)Z"⟩
def m_Field_has : jM := ("SharingRoom$Field", prog_5_method_5_code, 2, (some FieldType.boolean), "has", [])
def t_Field_has : List (Nat × Instr × Nat) := [(0, .iload_n 1, 1), (1, .ifCond .lt 15, 3), (4, .iload_n 1, 1), (5, .aload_n 0, 1), (6, .getfield 7, 3), (9, .if_icmp .ge 7, 3), (12, .iconst 1, 1), (13, .goto 4, 3), (16, .iconst 0, 1), (17, .ireturn, 1)]
set_option maxRecDepth 100000 in
theorem k_Field_has : jDec m_Field_has.2.1 t_Field_has := by decide +kernel
def y_Points_hasAt : MethodName := ⟨"SharingRoom$Points", "hasAt", "(I)Z"⟩
def m_Points_hasAt : jM := ("SharingRoom$Points", prog_8_method_6_code, 3, (some FieldType.boolean), "hasAt", [])
def t_Points_hasAt : List (Nat × Instr × Nat) := [(0, .iconst 0, 1), (1, .istore_n 2, 1), (2, .iload_n 2, 1), (3, .aload_n 0, 1), (4, .getfield 23, 3), (7, .if_icmp .ge 21, 3), (10, .aload_n 0, 1), (11, .getfield 9, 3), (14, .iload_n 2, 1), (15, .iaload, 1), (16, .iload_n 1, 1), (17, .if_icmp .ne 5, 3), (20, .iconst 1, 1), (21, .ireturn, 1), (22, .iinc 2 1, 3), (25, .goto (-23), 3), (28, .iconst 0, 1), (29, .ireturn, 1)]
set_option maxRecDepth 100000 in
theorem k_Points_hasAt : jDec m_Points_hasAt.2.1 t_Points_hasAt := by decide +kernel
def y_Points_isFull : MethodName := ⟨"SharingRoom$Points", "isFull", "()Z"⟩
def m_Points_isFull : jM := ("SharingRoom$Points", prog_8_method_4_code, 1, (some FieldType.boolean), "isFull", [])
def t_Points_isFull : List (Nat × Instr × Nat) := [(0, .aload_n 0, 1), (1, .getfield 23, 3), (4, .bipush 12, 2), (6, .if_icmp .ne 7, 3), (9, .iconst 1, 1), (10, .goto 4, 3), (13, .iconst 0, 1), (14, .ireturn, 1)]
set_option maxRecDepth 100000 in
theorem k_Points_isFull : jDec m_Points_isFull.2.1 t_Points_isFull := by decide +kernel
def y_Points_add : MethodName := ⟨"SharingRoom$Points", "add", "(II)V"⟩
def m_Points_add : jM := ("SharingRoom$Points", prog_8_method_7_code, 3, none, "add", [])
def t_Points_add : List (Nat × Instr × Nat) := [(0, .aload_n 0, 1), (1, .getfield 23, 3), (4, .bipush 12, 2), (6, .if_icmp .ge 33, 3), (9, .aload_n 0, 1), (10, .getfield 9, 3), (13, .aload_n 0, 1), (14, .getfield 23, 3), (17, .iload_n 1, 1), (18, .iastore, 1), (19, .aload_n 0, 1), (20, .getfield 13, 3), (23, .aload_n 0, 1), (24, .getfield 23, 3), (27, .iload_n 2, 1), (28, .iastore, 1), (29, .aload_n 0, 1), (30, .dup, 1), (31, .getfield 23, 3), (34, .iconst 1, 1), (35, .iadd, 1), (36, .putfield 23, 3), (39, .return_, 1)]
set_option maxRecDepth 100000 in
theorem k_Points_add : jDec m_Points_add.2.1 t_Points_add := by decide +kernel
def y_Points_size : MethodName := ⟨"SharingRoom$Points", "size", "()I"⟩
def m_Points_size : jM := ("SharingRoom$Points", prog_8_method_3_code, 1, (some FieldType.int), "size", [])
def t_Points_size : List (Nat × Instr × Nat) := [(0, .aload_n 0, 1), (1, .getfield 23, 3), (4, .ireturn, 1)]
set_option maxRecDepth 100000 in
theorem k_Points_size : jDec m_Points_size.2.1 t_Points_size := by decide +kernel
def y_Law_combine : MethodName := ⟨"SharingRoomLaw", "combine", "(LSharingRoom;I[J)I"⟩
def m_Law_combine : jM := ("SharingRoomLaw", method_5_code, 4, (some FieldType.int), "combine", [(0, 9, 12, 13), (0, 9, 15, 19)])
def t_Law_combine : List (Nat × Instr × Nat) := [(0, .aload_n 2, 1), (1, .iconst 0, 1), (2, .aload_n 0, 1), (3, .iload_n 1, 1), (4, .invokevirtual 21, 3), (7, .i2l, 1), (8, .lastore, 1), (9, .goto 9, 3), (12, .astore_n 3, 1), (13, .iconst 1, 1), (14, .ireturn, 1), (15, .astore_n 3, 1), (16, .iconst 2, 1), (17, .ireturn, 1), (18, .iconst 0, 1), (19, .ireturn, 1)]
set_option maxRecDepth 100000 in
theorem k_Law_combine : jDec m_Law_combine.2.1 t_Law_combine := by decide +kernel
def y_SR_combine : MethodName := ⟨"SharingRoom", "combine", "(I)I"⟩
def m_SR_combine : jM := ("SharingRoom", prog_1_method_4_code, 2, (some FieldType.int), "combine", [])
def t_SR_combine : List (Nat × Instr × Nat) := [(0, .aload_n 0, 1), (1, .getfield 28, 3), (4, .iload_n 1, 1), (5, .invokevirtual 57, 3), (8, .ifCond .ne 13, 3), (11, .new 47, 3), (14, .dup, 1), (15, .ldc 83, 2), (17, .invokespecial 51, 3), (20, .athrow, 1), (21, .aload_n 0, 1), (22, .getfield 28, 3), (25, .invokevirtual 79, 3), (28, .ifCond .ne 13, 3), (31, .new 70, 3), (34, .dup, 1), (35, .ldc 85, 2), (37, .invokespecial 74, 3), (40, .athrow, 1), (41, .aload_n 0, 1), (42, .getfield 28, 3), (45, .iload_n 1, 1), (46, .invokevirtual 87, 3), (49, .ireturn, 1)]
set_option maxRecDepth 100000 in
theorem k_SR_combine : jDec m_SR_combine.2.1 t_SR_combine := by decide +kernel
def y_Points_valueAt : MethodName := ⟨"SharingRoom$Points", "valueAt", "(I)I"⟩
def m_Points_valueAt : jM := ("SharingRoom$Points", prog_8_method_8_code, 4, (some FieldType.int), "valueAt", [])
def t_Points_valueAt : List (Nat × Instr × Nat) := [(0, .iconst 0, 1), (1, .istore_n 2, 1), (2, .iconst 0, 1), (3, .istore_n 3, 1), (4, .iload_n 3, 1), (5, .aload_n 0, 1), (6, .getfield 23, 3), (9, .if_icmp .ge 37, 3), (12, .aload_n 0, 1), (13, .getfield 19, 3), (16, .iload_n 2, 1), (17, .aload_n 0, 1), (18, .getfield 19, 3), (21, .aload_n 0, 1), (22, .iload_n 3, 1), (23, .iload_n 1, 1), (24, .invokevirtual 33, 3), (27, .aload_n 0, 1), (28, .getfield 13, 3), (31, .iload_n 3, 1), (32, .iaload, 1), (33, .invokevirtual 37, 3), (36, .invokevirtual 40, 3), (39, .istore_n 2, 1), (40, .iinc 3 1, 3), (43, .goto (-39), 3), (46, .iload_n 2, 1), (47, .ireturn, 1)]
set_option maxRecDepth 100000 in
theorem k_Points_valueAt : jDec m_Points_valueAt.2.1 t_Points_valueAt := by decide +kernel
def y_Points_weight : MethodName := ⟨"SharingRoom$Points", "weight", "(II)I"⟩
def m_Points_weight : jM := ("SharingRoom$Points", prog_8_method_9_code, 6, (some FieldType.int), "weight", [])
def t_Points_weight : List (Nat × Instr × Nat) := [(0, .iconst 1, 1), (1, .istore_n 3, 1), (2, .iconst 1, 1), (3, .istore 4, 2), (5, .iconst 0, 1), (6, .istore 5, 2), (8, .iload 5, 2), (10, .aload_n 0, 1), (11, .getfield 23, 3), (14, .if_icmp .ge 70, 3), (17, .iload 5, 2), (19, .iload_n 1, 1), (20, .if_icmp .eq 58, 3), (23, .aload_n 0, 1), (24, .getfield 19, 3), (27, .iload_n 3, 1), (28, .aload_n 0, 1), (29, .getfield 19, 3), (32, .iload_n 2, 1), (33, .aload_n 0, 1), (34, .getfield 9, 3), (37, .iload 5, 2), (39, .iaload, 1), (40, .invokevirtual 43, 3), (43, .invokevirtual 37, 3), (46, .istore_n 3, 1), (47, .aload_n 0, 1), (48, .getfield 19, 3), (51, .iload 4, 2), (53, .aload_n 0, 1), (54, .getfield 19, 3), (57, .aload_n 0, 1), (58, .getfield 9, 3), (61, .iload_n 1, 1), (62, .iaload, 1), (63, .aload_n 0, 1), (64, .getfield 9, 3), (67, .iload 5, 2), (69, .iaload, 1), (70, .invokevirtual 43, 3), (73, .invokevirtual 37, 3), (76, .istore 4, 2), (78, .iinc 5 1, 3), (81, .goto (-73), 3), (84, .aload_n 0, 1), (85, .getfield 19, 3), (88, .iload_n 3, 1), (89, .aload_n 0, 1), (90, .getfield 19, 3), (93, .iload 4, 2), (95, .invokevirtual 46, 3), (98, .invokevirtual 37, 3), (101, .ireturn, 1)]
set_option maxRecDepth 100000 in
theorem k_Points_weight : jDec m_Points_weight.2.1 t_Points_weight := by decide +kernel
def y_Byte_plus : MethodName := ⟨"SharingRoom$ByteField", "plus", "(II)I"⟩
def m_Byte_plus : jM := ("SharingRoom$ByteField", prog_3_method_2_code, 3, (some FieldType.int), "plus", [])
def t_Byte_plus : List (Nat × Instr × Nat) := [(0, .iload_n 1, 1), (1, .iload_n 2, 1), (2, .ixor, 1), (3, .ireturn, 1)]
set_option maxRecDepth 100000 in
theorem k_Byte_plus : jDec m_Byte_plus.2.1 t_Byte_plus := by decide +kernel
def y_Prime_plus : MethodName := ⟨"SharingRoom$PrimeField", "plus", "(II)I"⟩
def m_Prime_plus : jM := ("SharingRoom$PrimeField", prog_9_method_2_code, 3, (some FieldType.int), "plus", [])
def t_Prime_plus : List (Nat × Instr × Nat) := [(0, .iload_n 1, 1), (1, .iload_n 2, 1), (2, .iadd, 1), (3, .aload_n 0, 1), (4, .getfield 7, 3), (7, .irem, 1), (8, .ireturn, 1)]
set_option maxRecDepth 100000 in
theorem k_Prime_plus : jDec m_Prime_plus.2.1 t_Prime_plus := by decide +kernel
def y_Law_begin : MethodName := ⟨"SharingRoomLaw", "begin", "(LSharingRoom;III)I"⟩
def m_Law_begin : jM := ("SharingRoomLaw", method_6_code, 5, (some FieldType.int), "begin", [(0, 7, 10, 13)])
def t_Law_begin : List (Nat × Instr × Nat) := [(0, .aload_n 0, 1), (1, .iload_n 1, 1), (2, .iload_n 2, 1), (3, .iload_n 3, 1), (4, .invokevirtual 25, 3), (7, .goto 7, 3), (10, .astore 4, 2), (12, .iconst 1, 1), (13, .ireturn, 1), (14, .iconst 0, 1), (15, .ireturn, 1)]
set_option maxRecDepth 100000 in
theorem k_Law_begin : jDec m_Law_begin.2.1 t_Law_begin := by decide +kernel
def y_SR_begin : MethodName := ⟨"SharingRoom", "begin", "(III)V"⟩
def m_SR_begin : jM := ("SharingRoom", prog_1_method_6_code, 4, none, "begin", [])
def t_SR_begin : List (Nat × Instr × Nat) := [(0, .aload_n 0, 1), (1, .getfield 43, 3), (4, .iload_n 1, 1), (5, .invokevirtual 94, 3), (8, .ifCond .eq 11, 3), (11, .iload_n 2, 1), (12, .iload_n 3, 1), (13, .invokestatic 97, 3), (16, .ifCond .ne 13, 3), (19, .new 47, 3), (22, .dup, 1), (23, .ldc 101, 2), (25, .invokespecial 51, 3), (28, .athrow, 1), (29, .aload_n 0, 1), (30, .getfield 43, 3), (33, .iload_n 1, 1), (34, .iload_n 2, 1), (35, .iload_n 3, 1), (36, .invokevirtual 103, 3), (39, .return_, 1)]
set_option maxRecDepth 100000 in
theorem k_SR_begin : jDec m_SR_begin.2.1 t_SR_begin := by decide +kernel
def y_Room_hasGroup : MethodName := ⟨"SharingRoom$Room", "hasGroup", "(I)Z"⟩
def m_Room_hasGroup : jM := ("SharingRoom$Room", prog_10_method_3_code, 2, (some FieldType.boolean), "hasGroup", [])
def t_Room_hasGroup : List (Nat × Instr × Nat) := [(0, .iload_n 1, 1), (1, .ifCond .lt 16, 3), (4, .iload_n 1, 1), (5, .aload_n 0, 1), (6, .getfield 30, 3), (9, .arraylength, 1), (10, .if_icmp .ge 7, 3), (13, .iconst 1, 1), (14, .goto 4, 3), (17, .iconst 0, 1), (18, .ireturn, 1)]
set_option maxRecDepth 100000 in
theorem k_Room_hasGroup : jDec m_Room_hasGroup.2.1 t_Room_hasGroup := by decide +kernel
def y_Room_isCommittee : MethodName := ⟨"SharingRoom$Room", "isCommittee", "(II)Z"⟩
def m_Room_isCommittee : jM := ("SharingRoom$Room", prog_10_method_2_code, 2, (some FieldType.boolean), "isCommittee", [])
def t_Room_isCommittee : List (Nat × Instr × Nat) := [(0, .iload_n 0, 1), (1, .iconst 1, 1), (2, .if_icmp .lt 23, 3), (5, .iload_n 0, 1), (6, .bipush 7, 2), (8, .if_icmp .gt 17, 3), (11, .iload_n 1, 1), (12, .iconst 1, 1), (13, .if_icmp .lt 12, 3), (16, .iload_n 1, 1), (17, .iload_n 0, 1), (18, .if_icmp .gt 7, 3), (21, .iconst 1, 1), (22, .goto 4, 3), (25, .iconst 0, 1), (26, .ireturn, 1)]
set_option maxRecDepth 100000 in
theorem k_Room_isCommittee : jDec m_Room_isCommittee.2.1 t_Room_isCommittee := by decide +kernel
def y_Room_start : MethodName := ⟨"SharingRoom$Room", "start", "(III)V"⟩
def m_Room_start : jM := ("SharingRoom$Room", prog_10_method_9_code, 5, none, "start", [])
def t_Room_start : List (Nat × Instr × Nat) := [(0, .aload_n 0, 1), (1, .aload_n 0, 1), (2, .getfield 30, 3), (5, .iload_n 1, 1), (6, .aaload, 1), (7, .putfield 34, 3), (10, .aload_n 0, 1), (11, .aload_n 0, 1), (12, .getfield 34, 3), (15, .getfield 38, 3), (18, .putfield 42, 3), (21, .aload_n 0, 1), (22, .iload_n 2, 1), (23, .putfield 55, 3), (26, .aload_n 0, 1), (27, .iload_n 3, 1), (28, .putfield 59, 3), (31, .aload_n 0, 1), (32, .iconst 1, 1), (33, .putfield 72, 3), (36, .aload_n 0, 1), (37, .iconst 0, 1), (38, .putfield 75, 3), (41, .aload_n 0, 1), (42, .iconst 0, 1), (43, .putfield 78, 3), (46, .aload_n 0, 1), (47, .iconst 0, 1), (48, .putfield 81, 3), (51, .aload_n 0, 1), (52, .iconst 0, 1), (53, .putfield 84, 3), (56, .aload_n 0, 1), (57, .aload_n 0, 1), (58, .getfield 34, 3), (61, .getfield 87, 3), (64, .putfield 90, 3), (67, .aload_n 0, 1), (68, .getfield 20, 3), (71, .invokevirtual 93, 3), (74, .iconst 1, 1), (75, .istore 4, 2), (77, .iload 4, 2), (79, .bipush 7, 2), (81, .if_icmp .gt 18, 3), (84, .aload_n 0, 1), (85, .iload 4, 2), (87, .invokevirtual 96, 3), (90, .invokevirtual 100, 3), (93, .iinc 4 1, 3), (96, .goto (-19), 3), (99, .return_, 1)]
set_option maxRecDepth 100000 in
theorem k_Room_start : jDec m_Room_start.2.1 t_Room_start := by decide +kernel
def y_Board_clear : MethodName := ⟨"SharingRoom$Board", "clear", "()V"⟩
def m_Board_clear : jM := ("SharingRoom$Board", prog_2_method_2_code, 1, none, "clear", [])
def t_Board_clear : List (Nat × Instr × Nat) := [(0, .aload_n 0, 1), (1, .iconst 0, 1), (2, .putfield 20, 3), (5, .return_, 1)]
set_option maxRecDepth 100000 in
theorem k_Board_clear : jDec m_Board_clear.2.1 t_Board_clear := by decide +kernel
def y_Party_clear : MethodName := ⟨"SharingRoom$Party", "clear", "()V"⟩
def m_Party_clear : jM := ("SharingRoom$Party", prog_7_method_3_code, 2, none, "clear", [])
def t_Party_clear : List (Nat × Instr × Nat) := [(0, .aload_n 0, 1), (1, .invokevirtual 32, 3), (4, .iconst 0, 1), (5, .istore_n 1, 1), (6, .iload_n 1, 1), (7, .iconst 2, 1), (8, .if_icmp .ge 46, 3), (11, .aload_n 0, 1), (12, .getfield 20, 3), (15, .iload_n 1, 1), (16, .aaload, 1), (17, .iconst (-1), 1), (18, .invokestatic 35, 3), (21, .aload_n 0, 1), (22, .getfield 23, 3), (25, .iload_n 1, 1), (26, .aaload, 1), (27, .iconst (-1), 1), (28, .invokestatic 35, 3), (31, .aload_n 0, 1), (32, .getfield 26, 3), (35, .iload_n 1, 1), (36, .aaload, 1), (37, .iconst (-1), 1), (38, .invokestatic 35, 3), (41, .aload_n 0, 1), (42, .getfield 29, 3), (45, .iload_n 1, 1), (46, .iconst (-1), 1), (47, .iastore, 1), (48, .iinc 1 1, 3), (51, .goto (-45), 3), (54, .aload_n 0, 1), (55, .iconst 0, 1), (56, .putfield 41, 3), (59, .aload_n 0, 1), (60, .iconst 0, 1), (61, .putfield 45, 3), (64, .aload_n 0, 1), (65, .iconst 0, 1), (66, .putfield 49, 3), (69, .return_, 1)]
set_option maxRecDepth 100000 in
theorem k_Party_clear : jDec m_Party_clear.2.1 t_Party_clear := by decide +kernel
def y_Party_forget : MethodName := ⟨"SharingRoom$Party", "forget", "()V"⟩
def m_Party_forget : jM := ("SharingRoom$Party", prog_7_method_4_code, 1, none, "forget", [])
def t_Party_forget : List (Nat × Instr × Nat) := [(0, .aload_n 0, 1), (1, .getfield 11, 3), (4, .iconst 0, 1), (5, .aaload, 1), (6, .iconst 0, 1), (7, .invokestatic 35, 3), (10, .aload_n 0, 1), (11, .getfield 11, 3), (14, .iconst 1, 1), (15, .aaload, 1), (16, .iconst 0, 1), (17, .invokestatic 35, 3), (20, .aload_n 0, 1), (21, .getfield 16, 3), (24, .iconst 0, 1), (25, .invokestatic 35, 3), (28, .aload_n 0, 1), (29, .bipush 8, 2), (31, .putfield 52, 3), (34, .return_, 1)]
set_option maxRecDepth 100000 in
theorem k_Party_forget : jDec m_Party_forget.2.1 t_Party_forget := by decide +kernel
def y_Arrays_fill : MethodName := ⟨"java/util/Arrays", "fill", "([II)V"⟩
def m_Arrays_fill : jM := ("java/util/Arrays", prog_25_method_103_code, 4, none, "fill", [])
def t_Arrays_fill : List (Nat × Instr × Nat) := [(0, .iconst 0, 1), (1, .istore_n 2, 1), (2, .aload_n 0, 1), (3, .arraylength, 1), (4, .istore_n 3, 1), (5, .iload_n 2, 1), (6, .iload_n 3, 1), (7, .if_icmp .ge 13, 3), (10, .aload_n 0, 1), (11, .iload_n 2, 1), (12, .iload_n 1, 1), (13, .iastore, 1), (14, .iinc 2 1, 3), (17, .goto (-12), 3), (20, .return_, 1)]
set_option maxRecDepth 100000 in
theorem k_Arrays_fill : jDec m_Arrays_fill.2.1 t_Arrays_fill := by decide +kernel
def y_Law_give : MethodName := ⟨"SharingRoomLaw", "give", "(LSharingRoom;IIII)I"⟩
def m_Law_give : jM := ("SharingRoomLaw", method_7_code, 6, (some FieldType.int), "give", [(0, 9, 12, 19), (0, 9, 16, 13)])
def t_Law_give : List (Nat × Instr × Nat) := [(0, .aload_n 0, 1), (1, .iload_n 1, 1), (2, .iload_n 2, 1), (3, .iload_n 3, 1), (4, .iload 4, 2), (6, .invokevirtual 29, 3), (9, .goto 11, 3), (12, .astore 5, 2), (14, .iconst 1, 1), (15, .ireturn, 1), (16, .astore 5, 2), (18, .iconst 2, 1), (19, .ireturn, 1), (20, .iconst 0, 1), (21, .ireturn, 1)]
set_option maxRecDepth 100000 in
theorem k_Law_give : jDec m_Law_give.2.1 t_Law_give := by decide +kernel
def y_SR_give : MethodName := ⟨"SharingRoom", "give", "(IIII)V"⟩
def m_SR_give : jM := ("SharingRoom", prog_1_method_7_code, 5, none, "give", [])
def t_SR_give : List (Nat × Instr × Nat) := [(0, .aload_n 0, 1), (1, .getfield 43, 3), (4, .invokevirtual 107, 3), (7, .ifCond .ne 13, 3), (10, .new 70, 3), (13, .dup, 1), (14, .ldc 110, 2), (16, .invokespecial 74, 3), (19, .athrow, 1), (20, .aload_n 0, 1), (21, .iload_n 1, 1), (22, .invokevirtual 112, 3), (25, .aload_n 0, 1), (26, .iload_n 2, 1), (27, .invokevirtual 115, 3), (30, .iload_n 3, 1), (31, .invokestatic 118, 3), (34, .aload_n 0, 1), (35, .getfield 43, 3), (38, .iload_n 1, 1), (39, .iload_n 2, 1), (40, .iload_n 3, 1), (41, .iload 4, 2), (43, .invokevirtual 121, 3), (46, .return_, 1)]
set_option maxRecDepth 100000 in
theorem k_SR_give : jDec m_SR_give.2.1 t_SR_give := by decide +kernel
def y_Room_takesCoefficients : MethodName := ⟨"SharingRoom$Room", "takesCoefficients", "()Z"⟩
def m_Room_takesCoefficients : jM := ("SharingRoom$Room", prog_10_method_7_code, 1, (some FieldType.boolean), "takesCoefficients", [])
def t_Room_takesCoefficients : List (Nat × Instr × Nat) := [(0, .aload_n 0, 1), (1, .getfield 72, 3), (4, .ifCond .eq 22, 3), (7, .aload_n 0, 1), (8, .getfield 75, 3), (11, .ifCond .eq 11, 3), (14, .aload_n 0, 1), (15, .getfield 72, 3), (18, .iconst 1, 1), (19, .if_icmp .eq 7, 3), (22, .iconst 1, 1), (23, .goto 4, 3), (26, .iconst 0, 1), (27, .ireturn, 1)]
set_option maxRecDepth 100000 in
theorem k_Room_takesCoefficients : jDec m_Room_takesCoefficients.2.1 t_Room_takesCoefficients := by decide +kernel
def y_SR_needParty : MethodName := ⟨"SharingRoom", "needParty", "(I)V"⟩
def m_SR_needParty : jM := ("SharingRoom", prog_1_method_26_code, 2, none, "needParty", [])
def t_SR_needParty : List (Nat × Instr × Nat) := [(0, .aload_n 0, 1), (1, .getfield 43, 3), (4, .iload_n 1, 1), (5, .invokevirtual 228, 3), (8, .ifCond .ne 13, 3), (11, .new 47, 3), (14, .dup, 1), (15, .ldc 231, 2), (17, .invokespecial 51, 3), (20, .athrow, 1), (21, .return_, 1)]
set_option maxRecDepth 100000 in
theorem k_SR_needParty : jDec m_SR_needParty.2.1 t_SR_needParty := by decide +kernel
def y_Room_hasParty : MethodName := ⟨"SharingRoom$Room", "hasParty", "(I)Z"⟩
def m_Room_hasParty : jM := ("SharingRoom$Room", prog_10_method_4_code, 2, (some FieldType.boolean), "hasParty", [])
def t_Room_hasParty : List (Nat × Instr × Nat) := [(0, .iload_n 1, 1), (1, .iconst 1, 1), (2, .if_icmp .lt 15, 3), (5, .iload_n 1, 1), (6, .aload_n 0, 1), (7, .getfield 55, 3), (10, .if_icmp .gt 7, 3), (13, .iconst 1, 1), (14, .goto 4, 3), (17, .iconst 0, 1), (18, .ireturn, 1)]
set_option maxRecDepth 100000 in
theorem k_Room_hasParty : jDec m_Room_hasParty.2.1 t_Room_hasParty := by decide +kernel
def y_SR_needCoefficient : MethodName := ⟨"SharingRoom", "needCoefficient", "(I)V"⟩
def m_SR_needCoefficient : jM := ("SharingRoom", prog_1_method_27_code, 2, none, "needCoefficient", [])
def t_SR_needCoefficient : List (Nat × Instr × Nat) := [(0, .aload_n 0, 1), (1, .getfield 43, 3), (4, .iload_n 1, 1), (5, .invokevirtual 233, 3), (8, .ifCond .ne 13, 3), (11, .new 47, 3), (14, .dup, 1), (15, .ldc 236, 2), (17, .invokespecial 51, 3), (20, .athrow, 1), (21, .return_, 1)]
set_option maxRecDepth 100000 in
theorem k_SR_needCoefficient : jDec m_SR_needCoefficient.2.1 t_SR_needCoefficient := by decide +kernel
def y_Room_hasCoefficient : MethodName := ⟨"SharingRoom$Room", "hasCoefficient", "(I)Z"⟩
def m_Room_hasCoefficient : jM := ("SharingRoom$Room", prog_10_method_5_code, 2, (some FieldType.boolean), "hasCoefficient", [])
def t_Room_hasCoefficient : List (Nat × Instr × Nat) := [(0, .iload_n 1, 1), (1, .ifCond .lt 15, 3), (4, .iload_n 1, 1), (5, .aload_n 0, 1), (6, .getfield 59, 3), (9, .if_icmp .ge 7, 3), (12, .iconst 1, 1), (13, .goto 4, 3), (16, .iconst 0, 1), (17, .ireturn, 1)]
set_option maxRecDepth 100000 in
theorem k_Room_hasCoefficient : jDec m_Room_hasCoefficient.2.1 t_Room_hasCoefficient := by decide +kernel
def y_SR_needWhich : MethodName := ⟨"SharingRoom", "needWhich", "(I)V"⟩
def m_SR_needWhich : jM := ("SharingRoom", prog_1_method_28_code, 1, none, "needWhich", [])
def t_SR_needWhich : List (Nat × Instr × Nat) := [(0, .iload_n 0, 1), (1, .ifCond .eq 18, 3), (4, .iload_n 0, 1), (5, .iconst 1, 1), (6, .if_icmp .eq 13, 3), (9, .new 47, 3), (12, .dup, 1), (13, .ldc 238, 2), (15, .invokespecial 51, 3), (18, .athrow, 1), (19, .return_, 1)]
set_option maxRecDepth 100000 in
theorem k_SR_needWhich : jDec m_SR_needWhich.2.1 t_SR_needWhich := by decide +kernel
def y_Room_setCoefficient : MethodName := ⟨"SharingRoom$Room", "setCoefficient", "(IIII)V"⟩
def m_Room_setCoefficient : jM := ("SharingRoom$Room", prog_10_method_10_code, 5, none, "setCoefficient", [])
def t_Room_setCoefficient : List (Nat × Instr × Nat) := [(0, .aload_n 0, 1), (1, .iload_n 1, 1), (2, .invokevirtual 96, 3), (5, .getfield 101, 3), (8, .iload_n 3, 1), (9, .aaload, 1), (10, .iload_n 2, 1), (11, .iload 4, 2), (13, .aload_n 0, 1), (14, .getfield 42, 3), (17, .getfield 105, 3), (20, .invokestatic 110, 3), (23, .iastore, 1), (24, .return_, 1)]
set_option maxRecDepth 100000 in
theorem k_Room_setCoefficient : jDec m_Room_setCoefficient.2.1 t_Room_setCoefficient := by decide +kernel
def y_Math_floorMod : MethodName := ⟨"java/lang/Math", "floorMod", "(II)I"⟩
def m_Math_floorMod : jM := ("java/lang/Math", prog_20_method_50_code, 3, (some FieldType.int), "floorMod", [])
def t_Math_floorMod : List (Nat × Instr × Nat) := [(0, .iload_n 0, 1), (1, .iload_n 1, 1), (2, .irem, 1), (3, .istore_n 2, 1), (4, .iload_n 0, 1), (5, .iload_n 1, 1), (6, .ixor, 1), (7, .ifCond .ge 11, 3), (10, .iload_n 2, 1), (11, .ifCond .eq 7, 3), (14, .iload_n 2, 1), (15, .iload_n 1, 1), (16, .iadd, 1), (17, .ireturn, 1), (18, .iload_n 2, 1), (19, .ireturn, 1)]
set_option maxRecDepth 100000 in
theorem k_Math_floorMod : jDec m_Math_floorMod.2.1 t_Math_floorMod := by decide +kernel
def y_Law_fault : MethodName := ⟨"SharingRoomLaw", "fault", "(LSharingRoom;III)I"⟩
def m_Law_fault : jM := ("SharingRoomLaw", method_8_code, 5, (some FieldType.int), "fault", [(0, 7, 10, 19), (0, 7, 14, 13)])
def t_Law_fault : List (Nat × Instr × Nat) := [(0, .aload_n 0, 1), (1, .iload_n 1, 1), (2, .iload_n 2, 1), (3, .iload_n 3, 1), (4, .invokevirtual 33, 3), (7, .goto 11, 3), (10, .astore 4, 2), (12, .iconst 1, 1), (13, .ireturn, 1), (14, .astore 4, 2), (16, .iconst 2, 1), (17, .ireturn, 1), (18, .iconst 0, 1), (19, .ireturn, 1)]
set_option maxRecDepth 100000 in
theorem k_Law_fault : jDec m_Law_fault.2.1 t_Law_fault := by decide +kernel
def y_SR_fault : MethodName := ⟨"SharingRoom", "fault", "(III)V"⟩
def m_SR_fault : jM := ("SharingRoom", prog_1_method_8_code, 4, none, "fault", [])
def t_SR_fault : List (Nat × Instr × Nat) := [(0, .aload_n 0, 1), (1, .invokevirtual 125, 3), (4, .aload_n 0, 1), (5, .iload_n 1, 1), (6, .invokevirtual 112, 3), (9, .iload_n 2, 1), (10, .ifCond .lt 9, 3), (13, .iload_n 2, 1), (14, .bipush 7, 2), (16, .if_icmp .lt 13, 3), (19, .new 47, 3), (22, .dup, 1), (23, .ldc 130, 2), (25, .invokespecial 51, 3), (28, .athrow, 1), (29, .iload_n 2, 1), (30, .invokestatic 132, 3), (33, .ifCond .ne 14, 3), (36, .aload_n 0, 1), (37, .getfield 43, 3), (40, .iload_n 1, 1), (41, .iload_n 2, 1), (42, .iload_n 1, 1), (43, .invokevirtual 135, 3), (46, .return_, 1), (47, .aload_n 0, 1), (48, .iload_n 3, 1), (49, .invokevirtual 112, 3), (52, .iload_n 1, 1), (53, .iload_n 3, 1), (54, .if_icmp .ne 13, 3), (57, .new 47, 3), (60, .dup, 1), (61, .ldc 138, 2), (63, .invokespecial 51, 3), (66, .athrow, 1), (67, .aload_n 0, 1), (68, .getfield 43, 3), (71, .iload_n 1, 1), (72, .iload_n 2, 1), (73, .iload_n 3, 1), (74, .invokevirtual 135, 3), (77, .return_, 1)]
set_option maxRecDepth 100000 in
theorem k_SR_fault : jDec m_SR_fault.2.1 t_SR_fault := by decide +kernel
def y_SR_needBeforeRounds : MethodName := ⟨"SharingRoom", "needBeforeRounds", "()V"⟩
def m_SR_needBeforeRounds : jM := ("SharingRoom", prog_1_method_24_code, 1, none, "needBeforeRounds", [])
def t_SR_needBeforeRounds : List (Nat × Instr × Nat) := [(0, .aload_n 0, 1), (1, .getfield 43, 3), (4, .invokevirtual 221, 3), (7, .ifCond .ne 13, 3), (10, .new 70, 3), (13, .dup, 1), (14, .ldc 224, 2), (16, .invokespecial 74, 3), (19, .athrow, 1), (20, .return_, 1)]
set_option maxRecDepth 100000 in
theorem k_SR_needBeforeRounds : jDec m_SR_needBeforeRounds.2.1 t_SR_needBeforeRounds := by decide +kernel
def y_Room_isBeforeRounds : MethodName := ⟨"SharingRoom$Room", "isBeforeRounds", "()Z"⟩
def m_Room_isBeforeRounds : jM := ("SharingRoom$Room", prog_10_method_8_code, 1, (some FieldType.boolean), "isBeforeRounds", [])
def t_Room_isBeforeRounds : List (Nat × Instr × Nat) := [(0, .aload_n 0, 1), (1, .getfield 72, 3), (4, .ifCond .eq 14, 3), (7, .aload_n 0, 1), (8, .getfield 75, 3), (11, .ifCond .ne 7, 3), (14, .iconst 1, 1), (15, .goto 4, 3), (18, .iconst 0, 1), (19, .ireturn, 1)]
set_option maxRecDepth 100000 in
theorem k_Room_isBeforeRounds : jDec m_Room_isBeforeRounds.2.1 t_Room_isBeforeRounds := by decide +kernel
def y_Party_concernsAnother : MethodName := ⟨"SharingRoom$Party", "concernsAnother", "(I)Z"⟩
def m_Party_concernsAnother : jM := ("SharingRoom$Party", prog_7_method_2_code, 1, (some FieldType.boolean), "concernsAnother", [])
def t_Party_concernsAnother : List (Nat × Instr × Nat) := [(0, .iload_n 0, 1), (1, .iconst 1, 1), (2, .if_icmp .eq 8, 3), (5, .iload_n 0, 1), (6, .iconst 2, 1), (7, .if_icmp .ne 7, 3), (10, .iconst 1, 1), (11, .goto 4, 3), (14, .iconst 0, 1), (15, .ireturn, 1)]
set_option maxRecDepth 100000 in
theorem k_Party_concernsAnother : jDec m_Party_concernsAnother.2.1 t_Party_concernsAnother := by decide +kernel
def y_Room_setFault : MethodName := ⟨"SharingRoom$Room", "setFault", "(III)V"⟩
def m_Room_setFault : jM := ("SharingRoom$Room", prog_10_method_11_code, 4, none, "setFault", [])
def t_Room_setFault : List (Nat × Instr × Nat) := [(0, .aload_n 0, 1), (1, .iload_n 1, 1), (2, .invokevirtual 96, 3), (5, .getfield 116, 3), (8, .iload_n 2, 1), (9, .iload_n 3, 1), (10, .iastore, 1), (11, .return_, 1)]
set_option maxRecDepth 100000 in
theorem k_Room_setFault : jDec m_Room_setFault.2.1 t_Room_setFault := by decide +kernel
def y_Law_crash : MethodName := ⟨"SharingRoomLaw", "crash", "(LSharingRoom;II)I"⟩
def m_Law_crash : jM := ("SharingRoomLaw", method_9_code, 4, (some FieldType.int), "crash", [(0, 6, 9, 19), (0, 6, 12, 13)])
def t_Law_crash : List (Nat × Instr × Nat) := [(0, .aload_n 0, 1), (1, .iload_n 1, 1), (2, .iload_n 2, 1), (3, .invokevirtual 36, 3), (6, .goto 9, 3), (9, .astore_n 3, 1), (10, .iconst 1, 1), (11, .ireturn, 1), (12, .astore_n 3, 1), (13, .iconst 2, 1), (14, .ireturn, 1), (15, .iconst 0, 1), (16, .ireturn, 1)]
set_option maxRecDepth 100000 in
theorem k_Law_crash : jDec m_Law_crash.2.1 t_Law_crash := by decide +kernel
def y_SR_crash : MethodName := ⟨"SharingRoom", "crash", "(II)V"⟩
def m_SR_crash : jM := ("SharingRoom", prog_1_method_9_code, 3, none, "crash", [])
def t_SR_crash : List (Nat × Instr × Nat) := [(0, .aload_n 0, 1), (1, .invokevirtual 125, 3), (4, .aload_n 0, 1), (5, .iload_n 1, 1), (6, .invokevirtual 112, 3), (9, .iload_n 2, 1), (10, .iconst 1, 1), (11, .if_icmp .lt 9, 3), (14, .iload_n 2, 1), (15, .bipush 8, 2), (17, .if_icmp .le 13, 3), (20, .new 47, 3), (23, .dup, 1), (24, .ldc 140, 2), (26, .invokespecial 51, 3), (29, .athrow, 1), (30, .aload_n 0, 1), (31, .getfield 43, 3), (34, .iload_n 1, 1), (35, .iload_n 2, 1), (36, .invokevirtual 142, 3), (39, .return_, 1)]
set_option maxRecDepth 100000 in
theorem k_SR_crash : jDec m_SR_crash.2.1 t_SR_crash := by decide +kernel
def y_Room_setCrash : MethodName := ⟨"SharingRoom$Room", "setCrash", "(II)V"⟩
def m_Room_setCrash : jM := ("SharingRoom$Room", prog_10_method_12_code, 3, none, "setCrash", [])
def t_Room_setCrash : List (Nat × Instr × Nat) := [(0, .aload_n 0, 1), (1, .iload_n 1, 1), (2, .invokevirtual 96, 3), (5, .iload_n 2, 1), (6, .putfield 119, 3), (9, .return_, 1)]
set_option maxRecDepth 100000 in
theorem k_Room_setCrash : jDec m_Room_setCrash.2.1 t_Room_setCrash := by decide +kernel
def y_Law_next : MethodName := ⟨"SharingRoomLaw", "next", "(LSharingRoom;[J)I"⟩
def m_Law_next : jM := ("SharingRoomLaw", method_10_code, 3, (some FieldType.int), "next", [(0, 8, 11, 19)])
def t_Law_next : List (Nat × Instr × Nat) := [(0, .aload_n 1, 1), (1, .iconst 0, 1), (2, .aload_n 0, 1), (3, .invokevirtual 40, 3), (6, .i2l, 1), (7, .lastore, 1), (8, .goto 6, 3), (11, .astore_n 2, 1), (12, .iconst 1, 1), (13, .ireturn, 1), (14, .iconst 0, 1), (15, .ireturn, 1)]
set_option maxRecDepth 100000 in
theorem k_Law_next : jDec m_Law_next.2.1 t_Law_next := by decide +kernel
def y_SR_next : MethodName := ⟨"SharingRoom", "next", "()I"⟩
def m_SR_next : jM := ("SharingRoom", prog_1_method_10_code, 1, (some FieldType.int), "next", [])
def t_SR_next : List (Nat × Instr × Nat) := [(0, .aload_n 0, 1), (1, .getfield 43, 3), (4, .invokevirtual 145, 3), (7, .iconst 1, 1), (8, .if_icmp .eq 13, 3), (11, .new 70, 3), (14, .dup, 1), (15, .ldc 148, 2), (17, .invokespecial 74, 3), (20, .athrow, 1), (21, .aload_n 0, 1), (22, .getfield 43, 3), (25, .invokevirtual 150, 3), (28, .ireturn, 1)]
set_option maxRecDepth 100000 in
theorem k_SR_next : jDec m_SR_next.2.1 t_SR_next := by decide +kernel
def y_Room_advance : MethodName := ⟨"SharingRoom$Room", "advance", "()I"⟩
def m_Room_advance : jM := ("SharingRoom$Room", prog_10_method_24_code, 1, (some FieldType.int), "advance", [])
def t_Room_advance : List (Nat × Instr × Nat) := [(0, .aload_n 0, 1), (1, .dup, 1), (2, .getfield 75, 3), (5, .iconst 1, 1), (6, .iadd, 1), (7, .putfield 75, 3), (10, .aload_n 0, 1), (11, .getfield 75, 3), (14, .tableswitch 80 1 6 #[38, 45, 52, 59, 66, 73], 38), (52, .aload_n 0, 1), (53, .invokevirtual 144, 3), (56, .goto 42, 3), (59, .aload_n 0, 1), (60, .invokevirtual 147, 3), (63, .goto 35, 3), (66, .aload_n 0, 1), (67, .invokevirtual 150, 3), (70, .goto 28, 3), (73, .aload_n 0, 1), (74, .invokevirtual 153, 3), (77, .goto 21, 3), (80, .aload_n 0, 1), (81, .invokevirtual 156, 3), (84, .goto 14, 3), (87, .aload_n 0, 1), (88, .invokevirtual 159, 3), (91, .goto 7, 3), (94, .aload_n 0, 1), (95, .invokevirtual 162, 3), (98, .aload_n 0, 1), (99, .getfield 75, 3), (102, .ireturn, 1)]
set_option maxRecDepth 100000 in
theorem k_Room_advance : jDec m_Room_advance.2.1 t_Room_advance := by decide +kernel
def y_Room_dealAll : MethodName := ⟨"SharingRoom$Room", "dealAll", "()V"⟩
def m_Room_dealAll : jM := ("SharingRoom$Room", prog_10_method_25_code, 2, none, "dealAll", [])
def t_Room_dealAll : List (Nat × Instr × Nat) := [(0, .iconst 1, 1), (1, .istore_n 1, 1), (2, .iload_n 1, 1), (3, .aload_n 0, 1), (4, .getfield 55, 3), (7, .if_icmp .gt 38, 3), (10, .aload_n 0, 1), (11, .iload_n 1, 1), (12, .invokevirtual 96, 3), (15, .iconst 1, 1), (16, .invokevirtual 122, 3), (19, .ifCond .eq 20, 3), (22, .aload_n 0, 1), (23, .iload_n 1, 1), (24, .invokevirtual 96, 3), (27, .iconst 0, 1), (28, .invokevirtual 165, 3), (31, .ifCond .ne 8, 3), (34, .aload_n 0, 1), (35, .iload_n 1, 1), (36, .invokevirtual 168, 3), (39, .iinc 1 1, 3), (42, .goto (-40), 3), (45, .return_, 1)]
set_option maxRecDepth 100000 in
theorem k_Room_dealAll : jDec m_Room_dealAll.2.1 t_Room_dealAll := by decide +kernel
def y_Party_has : MethodName := ⟨"SharingRoom$Party", "has", "(I)Z"⟩
def m_Party_has : jM := ("SharingRoom$Party", prog_7_method_7_code, 2, (some FieldType.boolean), "has", [])
def t_Party_has : List (Nat × Instr × Nat) := [(0, .aload_n 0, 1), (1, .getfield 16, 3), (4, .iload_n 1, 1), (5, .iaload, 1), (6, .ifCond .eq 7, 3), (9, .iconst 1, 1), (10, .goto 4, 3), (13, .iconst 0, 1), (14, .ireturn, 1)]
set_option maxRecDepth 100000 in
theorem k_Party_has : jDec m_Party_has.2.1 t_Party_has := by decide +kernel
def y_Room_deal : MethodName := ⟨"SharingRoom$Room", "deal", "(I)V"⟩
def m_Room_deal : jM := ("SharingRoom$Room", prog_10_method_26_code, 6, none, "deal", [])
def t_Room_deal : List (Nat × Instr × Nat) := [(0, .aload_n 0, 1), (1, .iload_n 1, 1), (2, .invokevirtual 96, 3), (5, .astore_n 2, 1), (6, .aload_n 2, 1), (7, .iconst 1, 1), (8, .putfield 172, 3), (11, .aload_n 0, 1), (12, .getfield 20, 3), (15, .iconst 1, 1), (16, .iload_n 1, 1), (17, .invokevirtual 176, 3), (20, .iconst 0, 1), (21, .istore_n 3, 1), (22, .iload_n 3, 1), (23, .aload_n 0, 1), (24, .getfield 59, 3), (27, .if_icmp .ge 53, 3), (30, .aload_n 0, 1), (31, .getfield 34, 3), (34, .aload_n 2, 1), (35, .getfield 101, 3), (38, .iconst 0, 1), (39, .aaload, 1), (40, .iload_n 3, 1), (41, .iaload, 1), (42, .aload_n 2, 1), (43, .getfield 101, 3), (46, .iconst 1, 1), (47, .aaload, 1), (48, .iload_n 3, 1), (49, .iaload, 1), (50, .invokevirtual 180, 3), (53, .istore 4, 2), (55, .aload_n 2, 1), (56, .getfield 138, 3), (59, .iconst 0, 1), (60, .aaload, 1), (61, .iload_n 3, 1), (62, .iload 4, 2), (64, .iastore, 1), (65, .aload_n 0, 1), (66, .getfield 20, 3), (69, .iload 4, 2), (71, .invokevirtual 183, 3), (74, .iinc 3 1, 3), (77, .goto (-55), 3), (80, .iconst 1, 1), (81, .istore_n 3, 1), (82, .iload_n 3, 1), (83, .aload_n 0, 1), (84, .getfield 55, 3), (87, .if_icmp .gt 86, 3), (90, .aload_n 0, 1), (91, .iload_n 1, 1), (92, .iload_n 3, 1), (93, .iconst 0, 1), (94, .invokevirtual 186, 3), (97, .istore 4, 2), (99, .aload_n 2, 1), (100, .getfield 116, 3), (103, .iconst 1, 1), (104, .iaload, 1), (105, .iload_n 3, 1), (106, .if_icmp .ne 7, 3), (109, .iconst 1, 1), (110, .goto 4, 3), (113, .iconst 0, 1), (114, .istore 5, 2), (116, .aload_n 0, 1), (117, .iload_n 3, 1), (118, .invokevirtual 96, 3), (121, .getfield 136, 3), (124, .iconst 0, 1), (125, .aaload, 1), (126, .iload_n 1, 1), (127, .iload 5, 2), (129, .ifCond .eq 16, 3), (132, .aload_n 0, 1), (133, .getfield 42, 3), (136, .iload 4, 2), (138, .iconst 1, 1), (139, .invokevirtual 190, 3), (142, .goto 5, 3), (145, .iload 4, 2), (147, .iastore, 1), (148, .aload_n 0, 1), (149, .iload_n 3, 1), (150, .invokevirtual 96, 3), (153, .getfield 136, 3), (156, .iconst 1, 1), (157, .aaload, 1), (158, .iload_n 1, 1), (159, .aload_n 0, 1), (160, .iload_n 1, 1), (161, .iload_n 3, 1), (162, .iconst 1, 1), (163, .invokevirtual 186, 3), (166, .iastore, 1), (167, .iinc 3 1, 3), (170, .goto (-88), 3), (173, .return_, 1)]
set_option maxRecDepth 100000 in
theorem k_Room_deal : jDec m_Room_deal.2.1 t_Room_deal := by decide +kernel
def y_Board_write : MethodName := ⟨"SharingRoom$Board", "write", "(II)V"⟩
def m_Board_write : jM := ("SharingRoom$Board", prog_2_method_5_code, 3, none, "write", [])
def t_Board_write : List (Nat × Instr × Nat) := [(0, .aload_n 0, 1), (1, .iload_n 1, 1), (2, .invokevirtual 24, 3), (5, .aload_n 0, 1), (6, .iload_n 2, 1), (7, .invokevirtual 24, 3), (10, .return_, 1)]
set_option maxRecDepth 100000 in
theorem k_Board_write : jDec m_Board_write.2.1 t_Board_write := by decide +kernel
def y_Board_writeByte : MethodName := ⟨"SharingRoom$Board", "writeByte", "(I)V"⟩
def m_Board_writeByte : jM := ("SharingRoom$Board", prog_2_method_7_code, 2, none, "writeByte", [])
def t_Board_writeByte : List (Nat × Instr × Nat) := [(0, .aload_n 0, 1), (1, .getfield 20, 3), (4, .sipush 1050, 3), (7, .if_icmp .ge 24, 3), (10, .aload_n 0, 1), (11, .getfield 9, 3), (14, .aload_n 0, 1), (15, .getfield 20, 3), (18, .iload_n 1, 1), (19, .i2b, 1), (20, .bastore, 1), (21, .aload_n 0, 1), (22, .dup, 1), (23, .getfield 20, 3), (26, .iconst 1, 1), (27, .iadd, 1), (28, .putfield 20, 3), (31, .return_, 1)]
set_option maxRecDepth 100000 in
theorem k_Board_writeByte : jDec m_Board_writeByte.2.1 t_Board_writeByte := by decide +kernel
def y_Group_commit : MethodName := ⟨"SharingRoom$Group", "commit", "(II)I"⟩
def m_Group_commit : jM := ("SharingRoom$Group", prog_6_method_4_code, 3, (some FieldType.int), "commit", [])
def t_Group_commit : List (Nat × Instr × Nat) := [(0, .aload_n 0, 1), (1, .aload_n 0, 1), (2, .aload_n 0, 1), (3, .getfield 17, 3), (6, .iload_n 1, 1), (7, .invokevirtual 27, 3), (10, .aload_n 0, 1), (11, .aload_n 0, 1), (12, .getfield 20, 3), (15, .iload_n 2, 1), (16, .invokevirtual 27, 3), (19, .invokevirtual 23, 3), (22, .ireturn, 1)]
set_option maxRecDepth 100000 in
theorem k_Group_commit : jDec m_Group_commit.2.1 t_Group_commit := by decide +kernel
def y_Group_power : MethodName := ⟨"SharingRoom$Group", "power", "(II)I"⟩
def m_Group_power : jM := ("SharingRoom$Group", prog_6_method_3_code, 6, (some FieldType.int), "power", [])
def t_Group_power : List (Nat × Instr × Nat) := [(0, .aload_n 0, 1), (1, .getfield 13, 3), (4, .istore_n 3, 1), (5, .iload_n 1, 1), (6, .istore 4, 2), (8, .iload_n 2, 1), (9, .istore 5, 2), (11, .iload 5, 2), (13, .ifCond .le 38, 3), (16, .iload 5, 2), (18, .iconst 1, 1), (19, .iand, 1), (20, .iconst 1, 1), (21, .if_icmp .ne 11, 3), (24, .aload_n 0, 1), (25, .iload_n 3, 1), (26, .iload 4, 2), (28, .invokevirtual 23, 3), (31, .istore_n 3, 1), (32, .aload_n 0, 1), (33, .iload 4, 2), (35, .iload 4, 2), (37, .invokevirtual 23, 3), (40, .istore 4, 2), (42, .iload 5, 2), (44, .iconst 1, 1), (45, .ishr, 1), (46, .istore 5, 2), (48, .goto (-37), 3), (51, .iload_n 3, 1), (52, .ireturn, 1)]
set_option maxRecDepth 100000 in
theorem k_Group_power : jDec m_Group_power.2.1 t_Group_power := by decide +kernel
def y_Curve_product : MethodName := ⟨"SharingRoom$CurveGroup", "product", "(II)I"⟩
def m_Curve_product : jM := ("SharingRoom$CurveGroup", prog_4_method_2_code, 12, (some FieldType.int), "product", [])
def t_Curve_product : List (Nat × Instr × Nat) := [(0, .iload_n 1, 1), (1, .aload_n 0, 1), (2, .getfield 13, 3), (5, .if_icmp .ne 5, 3), (8, .iload_n 2, 1), (9, .ireturn, 1), (10, .iload_n 2, 1), (11, .aload_n 0, 1), (12, .getfield 13, 3), (15, .if_icmp .ne 5, 3), (18, .iload_n 1, 1), (19, .ireturn, 1), (20, .iload_n 1, 1), (21, .bipush 6, 2), (23, .ishr, 1), (24, .istore_n 3, 1), (25, .iload_n 1, 1), (26, .bipush 63, 2), (28, .iand, 1), (29, .istore 4, 2), (31, .iload_n 2, 1), (32, .bipush 6, 2), (34, .ishr, 1), (35, .istore 5, 2), (37, .iload_n 2, 1), (38, .bipush 63, 2), (40, .iand, 1), (41, .istore 6, 2), (43, .iload_n 3, 1), (44, .iload 5, 2), (46, .if_icmp .ne 18, 3), (49, .iload 4, 2), (51, .iload 6, 2), (53, .iadd, 1), (54, .bipush 43, 2), (56, .if_icmp .ne 8, 3), (59, .aload_n 0, 1), (60, .getfield 13, 3), (63, .ireturn, 1), (64, .iload_n 3, 1), (65, .iload 5, 2), (67, .if_icmp .ne 11, 3), (70, .iconst 3, 1), (71, .iload_n 3, 1), (72, .imul, 1), (73, .iload_n 3, 1), (74, .imul, 1), (75, .goto 11, 3), (78, .iload 6, 2), (80, .iload 4, 2), (82, .isub, 1), (83, .bipush 43, 2), (85, .iadd, 1), (86, .istore 7, 2), (88, .iload_n 3, 1), (89, .iload 5, 2), (91, .if_icmp .ne 10, 3), (94, .iconst 2, 1), (95, .iload 4, 2), (97, .imul, 1), (98, .goto 10, 3), (101, .iload 5, 2), (103, .iload_n 3, 1), (104, .isub, 1), (105, .bipush 43, 2), (107, .iadd, 1), (108, .bipush 43, 2), (110, .irem, 1), (111, .istore 8, 2), (113, .iload 7, 2), (115, .aload_n 0, 1), (116, .getfield 9, 3), (119, .iload 8, 2), (121, .iaload, 1), (122, .imul, 1), (123, .bipush 43, 2), (125, .irem, 1), (126, .istore 9, 2), (128, .iload 9, 2), (130, .iload 9, 2), (132, .imul, 1), (133, .bipush 86, 2), (135, .iadd, 1), (136, .iload_n 3, 1), (137, .isub, 1), (138, .iload 5, 2), (140, .isub, 1), (141, .bipush 43, 2), (143, .irem, 1), (144, .istore 10, 2), (146, .iload 9, 2), (148, .iload_n 3, 1), (149, .iload 10, 2), (151, .isub, 1), (152, .bipush 43, 2), (154, .iadd, 1), (155, .imul, 1), (156, .bipush 43, 2), (158, .iadd, 1), (159, .iload 4, 2), (161, .isub, 1), (162, .bipush 43, 2), (164, .irem, 1), (165, .istore 11, 2), (167, .iload 10, 2), (169, .bipush 6, 2), (171, .ishl, 1), (172, .iload 11, 2), (174, .ior, 1), (175, .ireturn, 1)]
set_option maxRecDepth 100000 in
theorem k_Curve_product : jDec m_Curve_product.2.1 t_Curve_product := by decide +kernel
def y_Square_product : MethodName := ⟨"SharingRoom$SquareGroup", "product", "(II)I"⟩
def m_Square_product : jM := ("SharingRoom$SquareGroup", prog_12_method_2_code, 3, (some FieldType.int), "product", [])
def t_Square_product : List (Nat × Instr × Nat) := [(0, .iload_n 1, 1), (1, .iload_n 2, 1), (2, .imul, 1), (3, .sipush 2039, 3), (6, .irem, 1), (7, .ireturn, 1)]
set_option maxRecDepth 100000 in
theorem k_Square_product : jDec m_Square_product.2.1 t_Square_product := by decide +kernel
def y_Board_writePair : MethodName := ⟨"SharingRoom$Board", "writePair", "(I)V"⟩
def m_Board_writePair : jM := ("SharingRoom$Board", prog_2_method_6_code, 2, none, "writePair", [])
def t_Board_writePair : List (Nat × Instr × Nat) := [(0, .aload_n 0, 1), (1, .iload_n 1, 1), (2, .bipush 8, 2), (4, .ishr, 1), (5, .invokevirtual 24, 3), (8, .aload_n 0, 1), (9, .iload_n 1, 1), (10, .invokevirtual 24, 3), (13, .return_, 1)]
set_option maxRecDepth 100000 in
theorem k_Board_writePair : jDec m_Board_writePair.2.1 t_Board_writePair := by decide +kernel
def y_Room_dealtNumber : MethodName := ⟨"SharingRoom$Room", "dealtNumber", "(III)I"⟩
def m_Room_dealtNumber : jM := ("SharingRoom$Room", prog_10_method_48_code, 5, (some FieldType.int), "dealtNumber", [])
def t_Room_dealtNumber : List (Nat × Instr × Nat) := [(0, .aload_n 0, 1), (1, .iload_n 1, 1), (2, .invokevirtual 96, 3), (5, .getfield 101, 3), (8, .iload_n 3, 1), (9, .aaload, 1), (10, .astore 4, 2), (12, .aload_n 0, 1), (13, .getfield 42, 3), (16, .aload 4, 2), (18, .iconst 0, 1), (19, .iaload, 1), (20, .aload 4, 2), (22, .aload_n 0, 1), (23, .getfield 59, 3), (26, .iload_n 2, 1), (27, .invokevirtual 292, 3), (30, .ireturn, 1)]
set_option maxRecDepth 100000 in
theorem k_Room_dealtNumber : jDec m_Room_dealtNumber.2.1 t_Room_dealtNumber := by decide +kernel
def y_Field_polynomialAt : MethodName := ⟨"SharingRoom$Field", "polynomialAt", "(I[III)I"⟩
def m_Field_polynomialAt : jM := ("SharingRoom$Field", prog_5_method_7_code, 7, (some FieldType.int), "polynomialAt", [])
def t_Field_polynomialAt : List (Nat × Instr × Nat) := [(0, .iconst 0, 1), (1, .istore 5, 2), (3, .iload_n 3, 1), (4, .iconst 1, 1), (5, .isub, 1), (6, .istore 6, 2), (8, .iload 6, 2), (10, .ifCond .le 27, 3), (13, .aload_n 0, 1), (14, .aload_n 0, 1), (15, .iload 5, 2), (17, .aload_n 2, 1), (18, .iload 6, 2), (20, .iaload, 1), (21, .invokevirtual 17, 3), (24, .iload 4, 2), (26, .invokevirtual 13, 3), (29, .istore 5, 2), (31, .iinc 6 (-1), 3), (34, .goto (-26), 3), (37, .aload_n 0, 1), (38, .iload 5, 2), (40, .iload_n 1, 1), (41, .invokevirtual 17, 3), (44, .ireturn, 1)]
set_option maxRecDepth 100000 in
theorem k_Field_polynomialAt : jDec m_Field_polynomialAt.2.1 t_Field_polynomialAt := by decide +kernel
def y_Room_complainAll : MethodName := ⟨"SharingRoom$Room", "complainAll", "()V"⟩
def m_Room_complainAll : jM := ("SharingRoom$Room", prog_10_method_27_code, 2, none, "complainAll", [])
def t_Room_complainAll : List (Nat × Instr × Nat) := [(0, .iconst 1, 1), (1, .istore_n 1, 1), (2, .iload_n 1, 1), (3, .aload_n 0, 1), (4, .getfield 55, 3), (7, .if_icmp .gt 26, 3), (10, .aload_n 0, 1), (11, .iload_n 1, 1), (12, .invokevirtual 96, 3), (15, .iconst 2, 1), (16, .invokevirtual 122, 3), (19, .ifCond .eq 8, 3), (22, .aload_n 0, 1), (23, .iload_n 1, 1), (24, .invokevirtual 193, 3), (27, .iinc 1 1, 3), (30, .goto (-28), 3), (33, .return_, 1)]
set_option maxRecDepth 100000 in
theorem k_Room_complainAll : jDec m_Room_complainAll.2.1 t_Room_complainAll := by decide +kernel
def y_Room_complain : MethodName := ⟨"SharingRoom$Room", "complain", "(I)V"⟩
def m_Room_complain : jM := ("SharingRoom$Room", prog_10_method_28_code, 5, none, "complain", [])
def t_Room_complain : List (Nat × Instr × Nat) := [(0, .aload_n 0, 1), (1, .iload_n 1, 1), (2, .invokevirtual 96, 3), (5, .astore_n 2, 1), (6, .iconst 1, 1), (7, .istore_n 3, 1), (8, .iload_n 3, 1), (9, .aload_n 0, 1), (10, .getfield 55, 3), (13, .if_icmp .gt 104, 3), (16, .aload_n 0, 1), (17, .iload_n 3, 1), (18, .invokevirtual 96, 3), (21, .getfield 172, 3), (24, .ifCond .ne 6, 3), (27, .goto 84, 3), (30, .aload_n 2, 1), (31, .getfield 116, 3), (34, .iconst 2, 1), (35, .iaload, 1), (36, .iload_n 3, 1), (37, .if_icmp .ne 7, 3), (40, .iconst 1, 1), (41, .goto 4, 3), (44, .iconst 0, 1), (45, .istore 4, 2), (47, .iload 4, 2), (49, .ifCond .ne 28, 3), (52, .aload_n 0, 1), (53, .iload_n 3, 1), (54, .iload_n 1, 1), (55, .aload_n 2, 1), (56, .getfield 136, 3), (59, .iconst 0, 1), (60, .aaload, 1), (61, .iload_n 3, 1), (62, .iaload, 1), (63, .aload_n 2, 1), (64, .getfield 136, 3), (67, .iconst 1, 1), (68, .aaload, 1), (69, .iload_n 3, 1), (70, .iaload, 1), (71, .invokevirtual 196, 3), (74, .ifCond .ne 37, 3), (77, .aload_n 0, 1), (78, .iload_n 3, 1), (79, .invokevirtual 96, 3), (82, .dup, 1), (83, .getfield 133, 3), (86, .iload_n 1, 1), (87, .invokestatic 130, 3), (90, .ior, 1), (91, .putfield 133, 3), (94, .aload_n 0, 1), (95, .getfield 20, 3), (98, .iconst 2, 1), (99, .iload_n 1, 1), (100, .invokevirtual 176, 3), (103, .aload_n 0, 1), (104, .getfield 20, 3), (107, .iload_n 3, 1), (108, .invokevirtual 200, 3), (111, .iinc 3 1, 3), (114, .goto (-106), 3), (117, .return_, 1)]
set_option maxRecDepth 100000 in
theorem k_Room_complain : jDec m_Room_complain.2.1 t_Room_complain := by decide +kernel
def y_Room_fits : MethodName := ⟨"SharingRoom$Room", "fits", "(IIII)Z"⟩
def m_Room_fits : jM := ("SharingRoom$Room", prog_10_method_49_code, 6, (some FieldType.boolean), "fits", [])
def t_Room_fits : List (Nat × Instr × Nat) := [(0, .aload_n 0, 1), (1, .getfield 34, 3), (4, .aload_n 0, 1), (5, .iload_n 1, 1), (6, .invokevirtual 96, 3), (9, .getfield 138, 3), (12, .iconst 0, 1), (13, .aaload, 1), (14, .aload_n 0, 1), (15, .getfield 59, 3), (18, .iload_n 2, 1), (19, .invokevirtual 246, 3), (22, .istore 5, 2), (24, .aload_n 0, 1), (25, .getfield 34, 3), (28, .iload_n 3, 1), (29, .iload 4, 2), (31, .invokevirtual 180, 3), (34, .iload 5, 2), (36, .if_icmp .ne 7, 3), (39, .iconst 1, 1), (40, .goto 4, 3), (43, .iconst 0, 1), (44, .ireturn, 1)]
set_option maxRecDepth 100000 in
theorem k_Room_fits : jDec m_Room_fits.2.1 t_Room_fits := by decide +kernel
def y_Group_polynomialInExponents : MethodName := ⟨"SharingRoom$Group", "polynomialInExponents", "([III)I"⟩
def m_Group_polynomialInExponents : jM := ("SharingRoom$Group", prog_6_method_5_code, 6, (some FieldType.int), "polynomialInExponents", [])
def t_Group_polynomialInExponents : List (Nat × Instr × Nat) := [(0, .aload_n 0, 1), (1, .getfield 13, 3), (4, .istore 4, 2), (6, .iload_n 2, 1), (7, .iconst 1, 1), (8, .isub, 1), (9, .istore 5, 2), (11, .iload 5, 2), (13, .ifCond .lt 26, 3), (16, .aload_n 0, 1), (17, .aload_n 0, 1), (18, .iload 4, 2), (20, .iload_n 3, 1), (21, .invokevirtual 27, 3), (24, .aload_n 1, 1), (25, .iload 5, 2), (27, .iaload, 1), (28, .invokevirtual 23, 3), (31, .istore 4, 2), (33, .iinc 5 (-1), 3), (36, .goto (-25), 3), (39, .iload 4, 2), (41, .ireturn, 1)]
set_option maxRecDepth 100000 in
theorem k_Group_polynomialInExponents : jDec m_Group_polynomialInExponents.2.1 t_Group_polynomialInExponents := by decide +kernel
def y_Room_answerAll : MethodName := ⟨"SharingRoom$Room", "answerAll", "()V"⟩
def m_Room_answerAll : jM := ("SharingRoom$Room", prog_10_method_29_code, 2, none, "answerAll", [])
def t_Room_answerAll : List (Nat × Instr × Nat) := [(0, .iconst 1, 1), (1, .istore_n 1, 1), (2, .iload_n 1, 1), (3, .aload_n 0, 1), (4, .getfield 55, 3), (7, .if_icmp .gt 38, 3), (10, .aload_n 0, 1), (11, .iload_n 1, 1), (12, .invokevirtual 96, 3), (15, .iconst 3, 1), (16, .invokevirtual 122, 3), (19, .ifCond .eq 20, 3), (22, .aload_n 0, 1), (23, .iload_n 1, 1), (24, .invokevirtual 96, 3), (27, .iconst 3, 1), (28, .invokevirtual 165, 3), (31, .ifCond .ne 8, 3), (34, .aload_n 0, 1), (35, .iload_n 1, 1), (36, .invokevirtual 203, 3), (39, .iinc 1 1, 3), (42, .goto (-40), 3), (45, .return_, 1)]
set_option maxRecDepth 100000 in
theorem k_Room_answerAll : jDec m_Room_answerAll.2.1 t_Room_answerAll := by decide +kernel
def y_Room_answer : MethodName := ⟨"SharingRoom$Room", "answer", "(I)V"⟩
def m_Room_answer : jM := ("SharingRoom$Room", prog_10_method_30_code, 6, none, "answer", [])
def t_Room_answer : List (Nat × Instr × Nat) := [(0, .aload_n 0, 1), (1, .iload_n 1, 1), (2, .invokevirtual 96, 3), (5, .astore_n 2, 1), (6, .iconst 1, 1), (7, .istore_n 3, 1), (8, .iload_n 3, 1), (9, .aload_n 0, 1), (10, .getfield 55, 3), (13, .if_icmp .gt 103, 3), (16, .aload_n 2, 1), (17, .iload_n 3, 1), (18, .invokevirtual 206, 3), (21, .ifCond .ne 6, 3), (24, .goto 86, 3), (27, .aload_n 0, 1), (28, .iload_n 1, 1), (29, .iload_n 3, 1), (30, .iconst 0, 1), (31, .invokevirtual 186, 3), (34, .istore 4, 2), (36, .aload_n 0, 1), (37, .iload_n 1, 1), (38, .iload_n 3, 1), (39, .iconst 1, 1), (40, .invokevirtual 186, 3), (43, .istore 5, 2), (45, .aload_n 2, 1), (46, .getfield 209, 3), (49, .iconst 0, 1), (50, .aaload, 1), (51, .iload_n 3, 1), (52, .aload_n 2, 1), (53, .iconst 4, 1), (54, .invokevirtual 165, 3), (57, .ifCond .eq 16, 3), (60, .aload_n 0, 1), (61, .getfield 42, 3), (64, .iload 4, 2), (66, .iconst 1, 1), (67, .invokevirtual 190, 3), (70, .goto 5, 3), (73, .iload 4, 2), (75, .iastore, 1), (76, .aload_n 2, 1), (77, .getfield 209, 3), (80, .iconst 1, 1), (81, .aaload, 1), (82, .iload_n 3, 1), (83, .iload 5, 2), (85, .iastore, 1), (86, .aload_n 0, 1), (87, .getfield 20, 3), (90, .iconst 3, 1), (91, .iload_n 1, 1), (92, .invokevirtual 176, 3), (95, .aload_n 0, 1), (96, .iload_n 3, 1), (97, .aload_n 2, 1), (98, .getfield 209, 3), (101, .iconst 0, 1), (102, .aaload, 1), (103, .iload_n 3, 1), (104, .iaload, 1), (105, .iload 5, 2), (107, .invokevirtual 212, 3), (110, .iinc 3 1, 3), (113, .goto (-105), 3), (116, .return_, 1)]
set_option maxRecDepth 100000 in
theorem k_Room_answer : jDec m_Room_answer.2.1 t_Room_answer := by decide +kernel
def y_Party_isComplainedOf : MethodName := ⟨"SharingRoom$Party", "isComplainedOf", "(I)Z"⟩
def m_Party_isComplainedOf : jM := ("SharingRoom$Party", prog_7_method_8_code, 2, (some FieldType.boolean), "isComplainedOf", [])
def t_Party_isComplainedOf : List (Nat × Instr × Nat) := [(0, .aload_n 0, 1), (1, .getfield 41, 3), (4, .iload_n 1, 1), (5, .invokestatic 55, 3), (8, .iand, 1), (9, .ifCond .eq 7, 3), (12, .iconst 1, 1), (13, .goto 4, 3), (16, .iconst 0, 1), (17, .ireturn, 1)]
set_option maxRecDepth 100000 in
theorem k_Party_isComplainedOf : jDec m_Party_isComplainedOf.2.1 t_Party_isComplainedOf := by decide +kernel
def y_Room_writeNumbers : MethodName := ⟨"SharingRoom$Room", "writeNumbers", "(III)V"⟩
def m_Room_writeNumbers : jM := ("SharingRoom$Room", prog_10_method_50_code, 4, none, "writeNumbers", [])
def t_Room_writeNumbers : List (Nat × Instr × Nat) := [(0, .aload_n 0, 1), (1, .getfield 20, 3), (4, .iload_n 1, 1), (5, .invokevirtual 200, 3), (8, .aload_n 0, 1), (9, .getfield 20, 3), (12, .iload_n 2, 1), (13, .invokevirtual 183, 3), (16, .aload_n 0, 1), (17, .getfield 20, 3), (20, .iload_n 3, 1), (21, .invokevirtual 183, 3), (24, .return_, 1)]
set_option maxRecDepth 100000 in
theorem k_Room_writeNumbers : jDec m_Room_writeNumbers.2.1 t_Room_writeNumbers := by decide +kernel
def y_Room_judgeAll : MethodName := ⟨"SharingRoom$Room", "judgeAll", "()V"⟩
def m_Room_judgeAll : jM := ("SharingRoom$Room", prog_10_method_31_code, 2, none, "judgeAll", [])
def t_Room_judgeAll : List (Nat × Instr × Nat) := [(0, .iconst 1, 1), (1, .istore_n 1, 1), (2, .iload_n 1, 1), (3, .aload_n 0, 1), (4, .getfield 55, 3), (7, .if_icmp .gt 35, 3), (10, .aload_n 0, 1), (11, .iload_n 1, 1), (12, .invokevirtual 216, 3), (15, .ifCond .ne 16, 3), (18, .aload_n 0, 1), (19, .dup, 1), (20, .getfield 78, 3), (23, .iload_n 1, 1), (24, .invokestatic 130, 3), (27, .ior, 1), (28, .putfield 78, 3), (31, .aload_n 0, 1), (32, .iload_n 1, 1), (33, .invokevirtual 219, 3), (36, .iinc 1 1, 3), (39, .goto (-37), 3), (42, .aload_n 0, 1), (43, .getfield 78, 3), (46, .ifCond .ne 9, 3), (49, .aload_n 0, 1), (50, .iconst 3, 1), (51, .putfield 72, 3), (54, .return_, 1), (55, .iconst 1, 1), (56, .istore_n 1, 1), (57, .iload_n 1, 1), (58, .aload_n 0, 1), (59, .getfield 55, 3), (62, .if_icmp .gt 21, 3), (65, .aload_n 0, 1), (66, .iload_n 1, 1), (67, .iconst 0, 1), (68, .invokevirtual 222, 3), (71, .aload_n 0, 1), (72, .iload_n 1, 1), (73, .iconst 1, 1), (74, .invokevirtual 222, 3), (77, .iinc 1 1, 3), (80, .goto (-23), 3), (83, .return_, 1)]
set_option maxRecDepth 100000 in
theorem k_Room_judgeAll : jDec m_Room_judgeAll.2.1 t_Room_judgeAll := by decide +kernel
def y_Room_isOut : MethodName := ⟨"SharingRoom$Room", "isOut", "(I)Z"⟩
def m_Room_isOut : jM := ("SharingRoom$Room", prog_10_method_32_code, 4, (some FieldType.boolean), "isOut", [])
def t_Room_isOut : List (Nat × Instr × Nat) := [(0, .aload_n 0, 1), (1, .iload_n 1, 1), (2, .invokevirtual 96, 3), (5, .astore_n 2, 1), (6, .aload_n 2, 1), (7, .getfield 172, 3), (10, .ifCond .eq 17, 3), (13, .aload_n 2, 1), (14, .getfield 133, 3), (17, .invokestatic 66, 3), (20, .aload_n 0, 1), (21, .getfield 59, 3), (24, .if_icmp .lt 5, 3), (27, .iconst 1, 1), (28, .ireturn, 1), (29, .iconst 1, 1), (30, .istore_n 3, 1), (31, .iload_n 3, 1), (32, .aload_n 0, 1), (33, .getfield 55, 3), (36, .if_icmp .gt 52, 3), (39, .aload_n 2, 1), (40, .iload_n 3, 1), (41, .invokevirtual 206, 3), (44, .ifCond .eq 38, 3), (47, .aload_n 2, 1), (48, .iload_n 3, 1), (49, .invokevirtual 225, 3), (52, .ifCond .eq 28, 3), (55, .aload_n 0, 1), (56, .iload_n 1, 1), (57, .iload_n 3, 1), (58, .aload_n 2, 1), (59, .getfield 209, 3), (62, .iconst 0, 1), (63, .aaload, 1), (64, .iload_n 3, 1), (65, .iaload, 1), (66, .aload_n 2, 1), (67, .getfield 209, 3), (70, .iconst 1, 1), (71, .aaload, 1), (72, .iload_n 3, 1), (73, .iaload, 1), (74, .invokevirtual 196, 3), (77, .ifCond .ne 5, 3), (80, .iconst 1, 1), (81, .ireturn, 1), (82, .iinc 3 1, 3), (85, .goto (-54), 3), (88, .iconst 0, 1), (89, .ireturn, 1)]
set_option maxRecDepth 100000 in
theorem k_Room_isOut : jDec m_Room_isOut.2.1 t_Room_isOut := by decide +kernel
def y_Integer_bitCount : MethodName := ⟨"java/lang/Integer", "bitCount", "(I)I"⟩
def m_Integer_bitCount : jM := ("java/lang/Integer", prog_19_method_49_code, 1, (some FieldType.int), "bitCount", [])
def t_Integer_bitCount : List (Nat × Instr × Nat) := [(0, .iload_n 0, 1), (1, .iload_n 0, 1), (2, .iconst 1, 1), (3, .iushr, 1), (4, .ldc_w 265, 3), (7, .iand, 1), (8, .isub, 1), (9, .istore_n 0, 1), (10, .iload_n 0, 1), (11, .ldc_w 266, 3), (14, .iand, 1), (15, .iload_n 0, 1), (16, .iconst 2, 1), (17, .iushr, 1), (18, .ldc_w 266, 3), (21, .iand, 1), (22, .iadd, 1), (23, .istore_n 0, 1), (24, .iload_n 0, 1), (25, .iload_n 0, 1), (26, .iconst 4, 1), (27, .iushr, 1), (28, .iadd, 1), (29, .ldc_w 267, 3), (32, .iand, 1), (33, .istore_n 0, 1), (34, .iload_n 0, 1), (35, .iload_n 0, 1), (36, .bipush 8, 2), (38, .iushr, 1), (39, .iadd, 1), (40, .istore_n 0, 1), (41, .iload_n 0, 1), (42, .iload_n 0, 1), (43, .bipush 16, 2), (45, .iushr, 1), (46, .iadd, 1), (47, .istore_n 0, 1), (48, .iload_n 0, 1), (49, .bipush 63, 2), (51, .iand, 1), (52, .ireturn, 1)]
set_option maxRecDepth 100000 in
theorem k_Integer_bitCount : jDec m_Integer_bitCount.2.1 t_Integer_bitCount := by decide +kernel
def y_Party_hasAnswered : MethodName := ⟨"SharingRoom$Party", "hasAnswered", "(I)Z"⟩
def m_Party_hasAnswered : jM := ("SharingRoom$Party", prog_7_method_9_code, 2, (some FieldType.boolean), "hasAnswered", [])
def t_Party_hasAnswered : List (Nat × Instr × Nat) := [(0, .aload_n 0, 1), (1, .getfield 26, 3), (4, .iconst 0, 1), (5, .aaload, 1), (6, .iload_n 1, 1), (7, .iaload, 1), (8, .iconst (-1), 1), (9, .if_icmp .eq 7, 3), (12, .iconst 1, 1), (13, .goto 4, 3), (16, .iconst 0, 1), (17, .ireturn, 1)]
set_option maxRecDepth 100000 in
theorem k_Party_hasAnswered : jDec m_Party_hasAnswered.2.1 t_Party_hasAnswered := by decide +kernel
def y_Room_takeAnswers : MethodName := ⟨"SharingRoom$Room", "takeAnswers", "(I)V"⟩
def m_Room_takeAnswers : jM := ("SharingRoom$Room", prog_10_method_33_code, 4, none, "takeAnswers", [])
def t_Room_takeAnswers : List (Nat × Instr × Nat) := [(0, .aload_n 0, 1), (1, .iload_n 1, 1), (2, .invokevirtual 96, 3), (5, .astore_n 2, 1), (6, .iconst 1, 1), (7, .istore_n 3, 1), (8, .iload_n 3, 1), (9, .aload_n 0, 1), (10, .getfield 55, 3), (13, .if_icmp .gt 57, 3), (16, .aload_n 2, 1), (17, .iload_n 3, 1), (18, .invokevirtual 225, 3), (21, .ifCond .eq 43, 3), (24, .aload_n 0, 1), (25, .iload_n 3, 1), (26, .invokevirtual 96, 3), (29, .getfield 136, 3), (32, .iconst 0, 1), (33, .aaload, 1), (34, .iload_n 1, 1), (35, .aload_n 2, 1), (36, .getfield 209, 3), (39, .iconst 0, 1), (40, .aaload, 1), (41, .iload_n 3, 1), (42, .iaload, 1), (43, .iastore, 1), (44, .aload_n 0, 1), (45, .iload_n 3, 1), (46, .invokevirtual 96, 3), (49, .getfield 136, 3), (52, .iconst 1, 1), (53, .aaload, 1), (54, .iload_n 1, 1), (55, .aload_n 2, 1), (56, .getfield 209, 3), (59, .iconst 1, 1), (60, .aaload, 1), (61, .iload_n 3, 1), (62, .iaload, 1), (63, .iastore, 1), (64, .iinc 3 1, 3), (67, .goto (-59), 3), (70, .return_, 1)]
set_option maxRecDepth 100000 in
theorem k_Room_takeAnswers : jDec m_Room_takeAnswers.2.1 t_Room_takeAnswers := by decide +kernel
def y_Room_sumUp : MethodName := ⟨"SharingRoom$Room", "sumUp", "(II)V"⟩
def m_Room_sumUp : jM := ("SharingRoom$Room", prog_10_method_34_code, 5, none, "sumUp", [])
def t_Room_sumUp : List (Nat × Instr × Nat) := [(0, .iconst 0, 1), (1, .istore_n 3, 1), (2, .iconst 1, 1), (3, .istore 4, 2), (5, .iload 4, 2), (7, .aload_n 0, 1), (8, .getfield 55, 3), (11, .if_icmp .gt 40, 3), (14, .aload_n 0, 1), (15, .iload 4, 2), (17, .invokevirtual 228, 3), (20, .ifCond .eq 25, 3), (23, .aload_n 0, 1), (24, .getfield 42, 3), (27, .iload_n 3, 1), (28, .aload_n 0, 1), (29, .iload_n 1, 1), (30, .invokevirtual 96, 3), (33, .getfield 136, 3), (36, .iload_n 2, 1), (37, .aaload, 1), (38, .iload 4, 2), (40, .iaload, 1), (41, .invokevirtual 190, 3), (44, .istore_n 3, 1), (45, .iinc 4 1, 3), (48, .goto (-43), 3), (51, .aload_n 0, 1), (52, .iload_n 1, 1), (53, .invokevirtual 96, 3), (56, .getfield 141, 3), (59, .iload_n 2, 1), (60, .iload_n 3, 1), (61, .iastore, 1), (62, .return_, 1)]
set_option maxRecDepth 100000 in
theorem k_Room_sumUp : jDec m_Room_sumUp.2.1 t_Room_sumUp := by decide +kernel
def y_Room_isQualified : MethodName := ⟨"SharingRoom$Room", "isQualified", "(I)Z"⟩
def m_Room_isQualified : jM := ("SharingRoom$Room", prog_10_method_51_code, 2, (some FieldType.boolean), "isQualified", [])
def t_Room_isQualified : List (Nat × Instr × Nat) := [(0, .aload_n 0, 1), (1, .getfield 78, 3), (4, .iload_n 1, 1), (5, .invokestatic 130, 3), (8, .iand, 1), (9, .ifCond .eq 7, 3), (12, .iconst 1, 1), (13, .goto 4, 3), (16, .iconst 0, 1), (17, .ireturn, 1)]
set_option maxRecDepth 100000 in
theorem k_Room_isQualified : jDec m_Room_isQualified.2.1 t_Room_isQualified := by decide +kernel
def y_Room_extractAll : MethodName := ⟨"SharingRoom$Room", "extractAll", "()V"⟩
def m_Room_extractAll : jM := ("SharingRoom$Room", prog_10_method_35_code, 2, none, "extractAll", [])
def t_Room_extractAll : List (Nat × Instr × Nat) := [(0, .iconst 1, 1), (1, .istore_n 1, 1), (2, .iload_n 1, 1), (3, .aload_n 0, 1), (4, .getfield 55, 3), (7, .if_icmp .gt 34, 3), (10, .aload_n 0, 1), (11, .iload_n 1, 1), (12, .invokevirtual 228, 3), (15, .ifCond .eq 20, 3), (18, .aload_n 0, 1), (19, .iload_n 1, 1), (20, .invokevirtual 96, 3), (23, .iconst 5, 1), (24, .invokevirtual 122, 3), (27, .ifCond .eq 8, 3), (30, .aload_n 0, 1), (31, .iload_n 1, 1), (32, .invokevirtual 231, 3), (35, .iinc 1 1, 3), (38, .goto (-36), 3), (41, .return_, 1)]
set_option maxRecDepth 100000 in
theorem k_Room_extractAll : jDec m_Room_extractAll.2.1 t_Room_extractAll := by decide +kernel
def y_Room_extract : MethodName := ⟨"SharingRoom$Room", "extract", "(I)V"⟩
def m_Room_extract : jM := ("SharingRoom$Room", prog_10_method_36_code, 5, none, "extract", [])
def t_Room_extract : List (Nat × Instr × Nat) := [(0, .aload_n 0, 1), (1, .iload_n 1, 1), (2, .invokevirtual 96, 3), (5, .astore_n 2, 1), (6, .aload_n 2, 1), (7, .iconst 1, 1), (8, .putfield 234, 3), (11, .aload_n 0, 1), (12, .getfield 20, 3), (15, .iconst 5, 1), (16, .iload_n 1, 1), (17, .invokevirtual 176, 3), (20, .iconst 0, 1), (21, .istore_n 3, 1), (22, .iload_n 3, 1), (23, .aload_n 0, 1), (24, .getfield 59, 3), (27, .if_icmp .ge 82, 3), (30, .aload_n 2, 1), (31, .getfield 101, 3), (34, .iconst 0, 1), (35, .aaload, 1), (36, .iload_n 3, 1), (37, .iaload, 1), (38, .istore 4, 2), (40, .iload_n 3, 1), (41, .ifCond .ne 23, 3), (44, .aload_n 2, 1), (45, .iconst 5, 1), (46, .invokevirtual 165, 3), (49, .ifCond .eq 15, 3), (52, .aload_n 0, 1), (53, .getfield 42, 3), (56, .iload 4, 2), (58, .iconst 1, 1), (59, .invokevirtual 190, 3), (62, .istore 4, 2), (64, .aload_n 2, 1), (65, .getfield 138, 3), (68, .iconst 1, 1), (69, .aaload, 1), (70, .iload_n 3, 1), (71, .aload_n 0, 1), (72, .getfield 34, 3), (75, .aload_n 0, 1), (76, .getfield 34, 3), (79, .getfield 237, 3), (82, .iload 4, 2), (84, .invokevirtual 240, 3), (87, .iastore, 1), (88, .aload_n 0, 1), (89, .getfield 20, 3), (92, .aload_n 2, 1), (93, .getfield 138, 3), (96, .iconst 1, 1), (97, .aaload, 1), (98, .iload_n 3, 1), (99, .iaload, 1), (100, .invokevirtual 183, 3), (103, .iinc 3 1, 3), (106, .goto (-84), 3), (109, .return_, 1)]
set_option maxRecDepth 100000 in
theorem k_Room_extract : jDec m_Room_extract.2.1 t_Room_extract := by decide +kernel
def y_Room_accuseAll : MethodName := ⟨"SharingRoom$Room", "accuseAll", "()V"⟩
def m_Room_accuseAll : jM := ("SharingRoom$Room", prog_10_method_37_code, 2, none, "accuseAll", [])
def t_Room_accuseAll : List (Nat × Instr × Nat) := [(0, .iconst 1, 1), (1, .istore_n 1, 1), (2, .iload_n 1, 1), (3, .aload_n 0, 1), (4, .getfield 55, 3), (7, .if_icmp .gt 27, 3), (10, .aload_n 0, 1), (11, .iload_n 1, 1), (12, .invokevirtual 96, 3), (15, .bipush 6, 2), (17, .invokevirtual 122, 3), (20, .ifCond .eq 8, 3), (23, .aload_n 0, 1), (24, .iload_n 1, 1), (25, .invokevirtual 243, 3), (28, .iinc 1 1, 3), (31, .goto (-29), 3), (34, .return_, 1)]
set_option maxRecDepth 100000 in
theorem k_Room_accuseAll : jDec m_Room_accuseAll.2.1 t_Room_accuseAll := by decide +kernel
def y_Room_accuse : MethodName := ⟨"SharingRoom$Room", "accuse", "(I)V"⟩
def m_Room_accuse : jM := ("SharingRoom$Room", prog_10_method_38_code, 6, none, "accuse", [])
def t_Room_accuse : List (Nat × Instr × Nat) := [(0, .iconst 1, 1), (1, .istore_n 2, 1), (2, .iload_n 2, 1), (3, .aload_n 0, 1), (4, .getfield 55, 3), (7, .if_icmp .gt 145, 3), (10, .aload_n 0, 1), (11, .iload_n 2, 1), (12, .invokevirtual 228, 3), (15, .ifCond .eq 131, 3), (18, .aload_n 0, 1), (19, .iload_n 2, 1), (20, .invokevirtual 96, 3), (23, .getfield 234, 3), (26, .ifCond .ne 6, 3), (29, .goto 117, 3), (32, .aload_n 0, 1), (33, .iload_n 1, 1), (34, .invokevirtual 96, 3), (37, .getfield 136, 3), (40, .iconst 0, 1), (41, .aaload, 1), (42, .iload_n 2, 1), (43, .iaload, 1), (44, .istore_n 3, 1), (45, .aload_n 0, 1), (46, .iload_n 1, 1), (47, .invokevirtual 96, 3), (50, .getfield 136, 3), (53, .iconst 1, 1), (54, .aaload, 1), (55, .iload_n 2, 1), (56, .iaload, 1), (57, .istore 4, 2), (59, .aload_n 0, 1), (60, .getfield 34, 3), (63, .aload_n 0, 1), (64, .iload_n 2, 1), (65, .invokevirtual 96, 3), (68, .getfield 138, 3), (71, .iconst 1, 1), (72, .aaload, 1), (73, .aload_n 0, 1), (74, .getfield 59, 3), (77, .iload_n 1, 1), (78, .invokevirtual 246, 3), (81, .istore 5, 2), (83, .aload_n 0, 1), (84, .getfield 34, 3), (87, .aload_n 0, 1), (88, .getfield 34, 3), (91, .getfield 237, 3), (94, .iload_n 3, 1), (95, .invokevirtual 240, 3), (98, .iload 5, 2), (100, .if_icmp .eq 46, 3), (103, .aload_n 0, 1), (104, .iload_n 2, 1), (105, .iload_n 1, 1), (106, .iload_n 3, 1), (107, .iload 4, 2), (109, .invokevirtual 196, 3), (112, .ifCond .eq 34, 3), (115, .aload_n 0, 1), (116, .dup, 1), (117, .getfield 81, 3), (120, .iload_n 2, 1), (121, .invokestatic 130, 3), (124, .ior, 1), (125, .putfield 81, 3), (128, .aload_n 0, 1), (129, .getfield 20, 3), (132, .bipush 6, 2), (134, .iload_n 1, 1), (135, .invokevirtual 176, 3), (138, .aload_n 0, 1), (139, .iload_n 2, 1), (140, .iload_n 3, 1), (141, .iload 4, 2), (143, .invokevirtual 212, 3), (146, .iinc 2 1, 3), (149, .goto (-147), 3), (152, .return_, 1)]
set_option maxRecDepth 100000 in
theorem k_Room_accuse : jDec m_Room_accuse.2.1 t_Room_accuse := by decide +kernel
def y_Room_openAll : MethodName := ⟨"SharingRoom$Room", "openAll", "()V"⟩
def m_Room_openAll : jM := ("SharingRoom$Room", prog_10_method_39_code, 3, none, "openAll", [])
def t_Room_openAll : List (Nat × Instr × Nat) := [(0, .iconst 0, 1), (1, .istore_n 1, 1), (2, .iconst 1, 1), (3, .istore_n 2, 1), (4, .iload_n 2, 1), (5, .aload_n 0, 1), (6, .getfield 55, 3), (9, .if_icmp .gt 147, 3), (12, .aload_n 0, 1), (13, .iload_n 2, 1), (14, .invokevirtual 228, 3), (17, .ifCond .ne 6, 3), (20, .goto 130, 3), (23, .aload_n 0, 1), (24, .iload_n 2, 1), (25, .invokevirtual 96, 3), (28, .getfield 234, 3), (31, .ifCond .eq 45, 3), (34, .aload_n 0, 1), (35, .getfield 81, 3), (38, .iload_n 2, 1), (39, .invokestatic 130, 3), (42, .iand, 1), (43, .ifCond .ne 33, 3), (46, .aload_n 0, 1), (47, .aload_n 0, 1), (48, .getfield 34, 3), (51, .aload_n 0, 1), (52, .getfield 90, 3), (55, .aload_n 0, 1), (56, .iload_n 2, 1), (57, .invokevirtual 96, 3), (60, .getfield 138, 3), (63, .iconst 1, 1), (64, .aaload, 1), (65, .iconst 0, 1), (66, .iaload, 1), (67, .invokevirtual 250, 3), (70, .putfield 90, 3), (73, .goto 77, 3), (76, .aload_n 0, 1), (77, .iload_n 2, 1), (78, .invokevirtual 253, 3), (81, .aload_n 0, 1), (82, .getfield 50, 3), (85, .invokevirtual 256, 3), (88, .aload_n 0, 1), (89, .getfield 59, 3), (92, .if_icmp .ge 8, 3), (95, .iconst 1, 1), (96, .istore_n 1, 1), (97, .goto 53, 3), (100, .aload_n 0, 1), (101, .dup, 1), (102, .getfield 84, 3), (105, .iload_n 2, 1), (106, .invokestatic 130, 3), (109, .ior, 1), (110, .putfield 84, 3), (113, .aload_n 0, 1), (114, .aload_n 0, 1), (115, .getfield 34, 3), (118, .aload_n 0, 1), (119, .getfield 90, 3), (122, .aload_n 0, 1), (123, .getfield 34, 3), (126, .aload_n 0, 1), (127, .getfield 34, 3), (130, .getfield 237, 3), (133, .aload_n 0, 1), (134, .getfield 50, 3), (137, .iconst 0, 1), (138, .invokevirtual 258, 3), (141, .invokevirtual 240, 3), (144, .invokevirtual 250, 3), (147, .putfield 90, 3), (150, .iinc 2 1, 3), (153, .goto (-149), 3), (156, .aload_n 0, 1), (157, .iload_n 1, 1), (158, .ifCond .eq 7, 3), (161, .iconst 3, 1), (162, .goto 4, 3), (165, .iconst 2, 1), (166, .putfield 72, 3), (169, .return_, 1)]
set_option maxRecDepth 100000 in
theorem k_Room_openAll : jDec m_Room_openAll.2.1 t_Room_openAll := by decide +kernel
def y_Room_collectNumbers : MethodName := ⟨"SharingRoom$Room", "collectNumbers", "(I)V"⟩
def m_Room_collectNumbers : jM := ("SharingRoom$Room", prog_10_method_40_code, 6, none, "collectNumbers", [])
def t_Room_collectNumbers : List (Nat × Instr × Nat) := [(0, .aload_n 0, 1), (1, .getfield 50, 3), (4, .aload_n 0, 1), (5, .getfield 42, 3), (8, .invokevirtual 261, 3), (11, .iconst 1, 1), (12, .istore_n 2, 1), (13, .iload_n 2, 1), (14, .aload_n 0, 1), (15, .getfield 55, 3), (18, .if_icmp .gt 124, 3), (21, .aload_n 0, 1), (22, .iload_n 2, 1), (23, .invokevirtual 96, 3), (26, .astore_n 3, 1), (27, .aload_n 3, 1), (28, .bipush 7, 2), (30, .invokevirtual 122, 3), (33, .ifCond .ne 6, 3), (36, .goto 100, 3), (39, .aload_n 3, 1), (40, .getfield 136, 3), (43, .iconst 0, 1), (44, .aaload, 1), (45, .iload_n 1, 1), (46, .iaload, 1), (47, .istore 4, 2), (49, .aload_n 3, 1), (50, .bipush 6, 2), (52, .invokevirtual 165, 3), (55, .ifCond .eq 15, 3), (58, .aload_n 0, 1), (59, .getfield 42, 3), (62, .iload 4, 2), (64, .iconst 1, 1), (65, .invokevirtual 190, 3), (68, .istore 4, 2), (70, .aload_n 3, 1), (71, .getfield 136, 3), (74, .iconst 1, 1), (75, .aaload, 1), (76, .iload_n 1, 1), (77, .iaload, 1), (78, .istore 5, 2), (80, .aload_n 0, 1), (81, .getfield 20, 3), (84, .bipush 7, 2), (86, .iload_n 2, 1), (87, .invokevirtual 176, 3), (90, .aload_n 0, 1), (91, .iload_n 1, 1), (92, .iload 4, 2), (94, .iload 5, 2), (96, .invokevirtual 212, 3), (99, .aload_n 0, 1), (100, .getfield 50, 3), (103, .invokevirtual 256, 3), (106, .aload_n 0, 1), (107, .getfield 59, 3), (110, .if_icmp .ge 26, 3), (113, .aload_n 0, 1), (114, .iload_n 1, 1), (115, .iload_n 2, 1), (116, .iload 4, 2), (118, .iload 5, 2), (120, .invokevirtual 196, 3), (123, .ifCond .eq 13, 3), (126, .aload_n 0, 1), (127, .getfield 50, 3), (130, .iload_n 2, 1), (131, .iload 4, 2), (133, .invokevirtual 263, 3), (136, .iinc 2 1, 3), (139, .goto (-126), 3), (142, .return_, 1)]
set_option maxRecDepth 100000 in
theorem k_Room_collectNumbers : jDec m_Room_collectNumbers.2.1 t_Room_collectNumbers := by decide +kernel
end
section
def y_Law_complaints : MethodName := ⟨"SharingRoomLaw", "complaints", "(LSharingRoom;I[J)I"⟩
def m_Law_complaints : jM := ("SharingRoomLaw", method_11_code, 4, (some FieldType.int), "complaints", [(0, 9, 12, 13)])
def t_Law_complaints : List (Nat × Instr × Nat) := [(0, .aload_n 2, 1), (1, .iconst 0, 1), (2, .aload_n 0, 1), (3, .iload_n 1, 1), (4, .invokevirtual 44, 3), (7, .i2l, 1), (8, .lastore, 1), (9, .goto 6, 3), (12, .astore_n 3, 1), (13, .iconst 1, 1), (14, .ireturn, 1), (15, .iconst 0, 1), (16, .ireturn, 1)]
set_option maxRecDepth 100000 in
theorem k_Law_complaints : jDec m_Law_complaints.2.1 t_Law_complaints := by decide +kernel
def y_SR_complaints : MethodName := ⟨"SharingRoom", "complaints", "(I)I"⟩
def m_SR_complaints : jM := ("SharingRoom", prog_1_method_13_code, 2, (some FieldType.int), "complaints", [])
def t_SR_complaints : List (Nat × Instr × Nat) := [(0, .aload_n 0, 1), (1, .iload_n 1, 1), (2, .invokevirtual 112, 3), (5, .aload_n 0, 1), (6, .getfield 43, 3), (9, .iload_n 1, 1), (10, .invokevirtual 165, 3), (13, .ireturn, 1)]
set_option maxRecDepth 100000 in
theorem k_SR_complaints : jDec m_SR_complaints.2.1 t_SR_complaints := by decide +kernel
def y_Room_complaintBits : MethodName := ⟨"SharingRoom$Room", "complaintBits", "(I)I"⟩
def m_Room_complaintBits : jM := ("SharingRoom$Room", prog_10_method_20_code, 2, (some FieldType.int), "complaintBits", [])
def t_Room_complaintBits : List (Nat × Instr × Nat) := [(0, .aload_n 0, 1), (1, .iload_n 1, 1), (2, .invokevirtual 96, 3), (5, .getfield 133, 3), (8, .aload_n 0, 1), (9, .invokevirtual 62, 3), (12, .iand, 1), (13, .ireturn, 1)]
set_option maxRecDepth 100000 in
theorem k_Room_complaintBits : jDec m_Room_complaintBits.2.1 t_Room_complaintBits := by decide +kernel
def y_Law_received : MethodName := ⟨"SharingRoomLaw", "received", "(LSharingRoom;III[J)I"⟩
def m_Law_received : jM := ("SharingRoomLaw", method_12_code, 6, (some FieldType.int), "received", [(0, 12, 15, 13)])
def t_Law_received : List (Nat × Instr × Nat) := [(0, .aload 4, 2), (2, .iconst 0, 1), (3, .aload_n 0, 1), (4, .iload_n 1, 1), (5, .iload_n 2, 1), (6, .iload_n 3, 1), (7, .invokevirtual 47, 3), (10, .i2l, 1), (11, .lastore, 1), (12, .goto 7, 3), (15, .astore 5, 2), (17, .iconst 1, 1), (18, .ireturn, 1), (19, .iconst 0, 1), (20, .ireturn, 1)]
set_option maxRecDepth 100000 in
theorem k_Law_received : jDec m_Law_received.2.1 t_Law_received := by decide +kernel
def y_SR_received : MethodName := ⟨"SharingRoom", "received", "(III)I"⟩
def m_SR_received : jM := ("SharingRoom", prog_1_method_14_code, 4, (some FieldType.int), "received", [])
def t_SR_received : List (Nat × Instr × Nat) := [(0, .aload_n 0, 1), (1, .iload_n 1, 1), (2, .invokevirtual 112, 3), (5, .aload_n 0, 1), (6, .iload_n 2, 1), (7, .invokevirtual 112, 3), (10, .iload_n 3, 1), (11, .invokestatic 118, 3), (14, .aload_n 0, 1), (15, .getfield 43, 3), (18, .iload_n 1, 1), (19, .iload_n 2, 1), (20, .iload_n 3, 1), (21, .invokevirtual 168, 3), (24, .ireturn, 1)]
set_option maxRecDepth 100000 in
theorem k_SR_received : jDec m_SR_received.2.1 t_SR_received := by decide +kernel
def y_Room_numberOf : MethodName := ⟨"SharingRoom$Room", "numberOf", "(III)I"⟩
def m_Room_numberOf : jM := ("SharingRoom$Room", prog_10_method_21_code, 4, (some FieldType.int), "numberOf", [])
def t_Room_numberOf : List (Nat × Instr × Nat) := [(0, .aload_n 0, 1), (1, .iload_n 2, 1), (2, .invokevirtual 96, 3), (5, .getfield 136, 3), (8, .iload_n 3, 1), (9, .aaload, 1), (10, .iload_n 1, 1), (11, .iaload, 1), (12, .ireturn, 1)]
set_option maxRecDepth 100000 in
theorem k_Room_numberOf : jDec m_Room_numberOf.2.1 t_Room_numberOf := by decide +kernel
def y_Law_commitment : MethodName := ⟨"SharingRoomLaw", "commitment", "(LSharingRoom;III[J)I"⟩
def m_Law_commitment : jM := ("SharingRoomLaw", method_13_code, 6, (some FieldType.int), "commitment", [(0, 12, 15, 13)])
def t_Law_commitment : List (Nat × Instr × Nat) := [(0, .aload 4, 2), (2, .iconst 0, 1), (3, .aload_n 0, 1), (4, .iload_n 1, 1), (5, .iload_n 2, 1), (6, .iload_n 3, 1), (7, .invokevirtual 51, 3), (10, .i2l, 1), (11, .lastore, 1), (12, .goto 7, 3), (15, .astore 5, 2), (17, .iconst 1, 1), (18, .ireturn, 1), (19, .iconst 0, 1), (20, .ireturn, 1)]
set_option maxRecDepth 100000 in
theorem k_Law_commitment : jDec m_Law_commitment.2.1 t_Law_commitment := by decide +kernel
def y_SR_commitment : MethodName := ⟨"SharingRoom", "commitment", "(III)I"⟩
def m_SR_commitment : jM := ("SharingRoom", prog_1_method_15_code, 4, (some FieldType.int), "commitment", [])
def t_SR_commitment : List (Nat × Instr × Nat) := [(0, .aload_n 0, 1), (1, .iload_n 1, 1), (2, .invokevirtual 112, 3), (5, .aload_n 0, 1), (6, .iload_n 2, 1), (7, .invokevirtual 115, 3), (10, .iload_n 3, 1), (11, .invokestatic 118, 3), (14, .aload_n 0, 1), (15, .getfield 43, 3), (18, .iload_n 1, 1), (19, .iload_n 2, 1), (20, .iload_n 3, 1), (21, .invokevirtual 172, 3), (24, .ireturn, 1)]
set_option maxRecDepth 100000 in
theorem k_SR_commitment : jDec m_SR_commitment.2.1 t_SR_commitment := by decide +kernel
def y_Room_elementOf : MethodName := ⟨"SharingRoom$Room", "elementOf", "(III)I"⟩
def m_Room_elementOf : jM := ("SharingRoom$Room", prog_10_method_22_code, 4, (some FieldType.int), "elementOf", [])
def t_Room_elementOf : List (Nat × Instr × Nat) := [(0, .aload_n 0, 1), (1, .iload_n 1, 1), (2, .invokevirtual 96, 3), (5, .getfield 138, 3), (8, .iload_n 3, 1), (9, .aaload, 1), (10, .iload_n 2, 1), (11, .iaload, 1), (12, .ireturn, 1)]
set_option maxRecDepth 100000 in
theorem k_Room_elementOf : jDec m_Room_elementOf.2.1 t_Room_elementOf := by decide +kernel
def y_Law_share : MethodName := ⟨"SharingRoomLaw", "share", "(LSharingRoom;II[J)I"⟩
def m_Law_share : jM := ("SharingRoomLaw", method_14_code, 5, (some FieldType.int), "share", [(0, 10, 13, 13)])
def t_Law_share : List (Nat × Instr × Nat) := [(0, .aload_n 3, 1), (1, .iconst 0, 1), (2, .aload_n 0, 1), (3, .iload_n 1, 1), (4, .iload_n 2, 1), (5, .invokevirtual 54, 3), (8, .i2l, 1), (9, .lastore, 1), (10, .goto 7, 3), (13, .astore 4, 2), (15, .iconst 1, 1), (16, .ireturn, 1), (17, .iconst 0, 1), (18, .ireturn, 1)]
set_option maxRecDepth 100000 in
theorem k_Law_share : jDec m_Law_share.2.1 t_Law_share := by decide +kernel
def y_SR_share : MethodName := ⟨"SharingRoom", "share", "(II)I"⟩
def m_SR_share : jM := ("SharingRoom", prog_1_method_16_code, 3, (some FieldType.int), "share", [])
def t_SR_share : List (Nat × Instr × Nat) := [(0, .aload_n 0, 1), (1, .iload_n 1, 1), (2, .invokevirtual 112, 3), (5, .iload_n 2, 1), (6, .invokestatic 118, 3), (9, .aload_n 0, 1), (10, .getfield 43, 3), (13, .iload_n 1, 1), (14, .iload_n 2, 1), (15, .invokevirtual 175, 3), (18, .ireturn, 1)]
set_option maxRecDepth 100000 in
theorem k_SR_share : jDec m_SR_share.2.1 t_SR_share := by decide +kernel
def y_Room_shareOf : MethodName := ⟨"SharingRoom$Room", "shareOf", "(II)I"⟩
def m_Room_shareOf : jM := ("SharingRoom$Room", prog_10_method_23_code, 3, (some FieldType.int), "shareOf", [])
def t_Room_shareOf : List (Nat × Instr × Nat) := [(0, .aload_n 0, 1), (1, .iload_n 1, 1), (2, .invokevirtual 96, 3), (5, .getfield 141, 3), (8, .iload_n 2, 1), (9, .iaload, 1), (10, .ireturn, 1)]
set_option maxRecDepth 100000 in
theorem k_Room_shareOf : jDec m_Room_shareOf.2.1 t_Room_shareOf := by decide +kernel
def y_Law_told : MethodName := ⟨"SharingRoomLaw", "told", "(LSharingRoom;I[J)I"⟩
def m_Law_told : jM := ("SharingRoomLaw", method_15_code, 4, (some FieldType.int), "told", [(0, 9, 12, 60)])
def t_Law_told : List (Nat × Instr × Nat) := [(0, .aload_n 2, 1), (1, .iconst 0, 1), (2, .aload_n 0, 1), (3, .iload_n 1, 1), (4, .invokevirtual 57, 3), (7, .i2l, 1), (8, .lastore, 1), (9, .goto 6, 3), (12, .astore_n 3, 1), (13, .iconst 1, 1), (14, .ireturn, 1), (15, .iconst 0, 1), (16, .ireturn, 1)]
set_option maxRecDepth 100000 in
theorem k_Law_told : jDec m_Law_told.2.1 t_Law_told := by decide +kernel
def y_SR_told : MethodName := ⟨"SharingRoom", "told", "(I)I"⟩
def m_SR_told : jM := ("SharingRoom", prog_1_method_18_code, 2, (some FieldType.int), "told", [])
def t_SR_told : List (Nat × Instr × Nat) := [(0, .iload_n 1, 1), (1, .ifCond .lt 17, 3), (4, .iload_n 1, 1), (5, .aload_n 0, 1), (6, .getfield 43, 3), (9, .invokevirtual 179, 3), (12, .invokevirtual 183, 3), (15, .if_icmp .lt 13, 3), (18, .new 186, 3), (21, .dup, 1), (22, .ldc 188, 2), (24, .invokespecial 190, 3), (27, .athrow, 1), (28, .aload_n 0, 1), (29, .getfield 43, 3), (32, .invokevirtual 179, 3), (35, .iload_n 1, 1), (36, .invokevirtual 191, 3), (39, .ireturn, 1)]
set_option maxRecDepth 100000 in
theorem k_SR_told : jDec m_SR_told.2.1 t_SR_told := by decide +kernel
def y_Board_byteAt : MethodName := ⟨"SharingRoom$Board", "byteAt", "(I)I"⟩
def m_Board_byteAt : jM := ("SharingRoom$Board", prog_2_method_4_code, 2, (some FieldType.int), "byteAt", [])
def t_Board_byteAt : List (Nat × Instr × Nat) := [(0, .aload_n 0, 1), (1, .getfield 9, 3), (4, .iload_n 1, 1), (5, .baload, 1), (6, .sipush 255, 3), (9, .iand, 1), (10, .ireturn, 1)]
set_option maxRecDepth 100000 in
theorem k_Board_byteAt : jDec m_Board_byteAt.2.1 t_Board_byteAt := by decide +kernel
def y_Law_digest : MethodName := ⟨"SharingRoomLaw", "digest", "(LSharingRoom;I[J)I"⟩
def m_Law_digest : jM := ("SharingRoomLaw", method_16_code, 4, (some FieldType.int), "digest", [(0, 9, 12, 60)])
def t_Law_digest : List (Nat × Instr × Nat) := [(0, .aload_n 2, 1), (1, .iconst 0, 1), (2, .aload_n 0, 1), (3, .iload_n 1, 1), (4, .invokevirtual 62, 3), (7, .i2l, 1), (8, .lastore, 1), (9, .goto 6, 3), (12, .astore_n 3, 1), (13, .iconst 1, 1), (14, .ireturn, 1), (15, .iconst 0, 1), (16, .ireturn, 1)]
set_option maxRecDepth 100000 in
theorem k_Law_digest : jDec m_Law_digest.2.1 t_Law_digest := by decide +kernel
def y_SR_digest : MethodName := ⟨"SharingRoom", "digest", "(I)I"⟩
def m_SR_digest : jM := ("SharingRoom", prog_1_method_19_code, 2, (some FieldType.int), "digest", [])
def t_SR_digest : List (Nat × Instr × Nat) := [(0, .iload_n 1, 1), (1, .ifCond .lt 9, 3), (4, .iload_n 1, 1), (5, .bipush 8, 2), (7, .if_icmp .lt 13, 3), (10, .new 186, 3), (13, .dup, 1), (14, .ldc 196, 2), (16, .invokespecial 190, 3), (19, .athrow, 1), (20, .aload_n 0, 1), (21, .getfield 43, 3), (24, .invokevirtual 179, 3), (27, .iload_n 1, 1), (28, .invokevirtual 198, 3), (31, .ireturn, 1)]
set_option maxRecDepth 100000 in
theorem k_SR_digest : jDec m_SR_digest.2.1 t_SR_digest := by decide +kernel
def y_Board_digestWord : MethodName := ⟨"SharingRoom$Board", "digestWord", "(I)I"⟩
def m_Board_digestWord : jM := ("SharingRoom$Board", prog_2_method_8_code, 2, (some FieldType.int), "digestWord", [])
def t_Board_digestWord : List (Nat × Instr × Nat) := [(0, .aload_n 0, 1), (1, .getfield 16, 3), (4, .aload_n 0, 1), (5, .getfield 9, 3), (8, .aload_n 0, 1), (9, .getfield 20, 3), (12, .iload_n 1, 1), (13, .invokevirtual 28, 3), (16, .ireturn, 1)]
set_option maxRecDepth 100000 in
theorem k_Board_digestWord : jDec m_Board_digestWord.2.1 t_Board_digestWord := by decide +kernel
def y_Sha_wordOf : MethodName := ⟨"SharingRoom$Sha256", "wordOf", "([BII)I"⟩
def m_Sha_wordOf : jM := ("SharingRoom$Sha256", prog_11_method_2_code, 6, (some FieldType.int), "wordOf", [])
def t_Sha_wordOf : List (Nat × Instr × Nat) := [(0, .getstatic 19, 3), (3, .iconst 0, 1), (4, .aload_n 0, 1), (5, .getfield 13, 3), (8, .iconst 0, 1), (9, .bipush 8, 2), (11, .invokestatic 22, 3), (14, .iload_n 2, 1), (15, .bipush 9, 2), (17, .iadd, 1), (18, .bipush 64, 2), (20, .iadd, 1), (21, .iconst 1, 1), (22, .isub, 1), (23, .bipush 64, 2), (25, .idiv, 1), (26, .istore 4, 2), (28, .iconst 0, 1), (29, .istore 5, 2), (31, .iload 5, 2), (33, .iload 4, 2), (35, .if_icmp .ge 23, 3), (38, .aload_n 0, 1), (39, .aload_n 1, 1), (40, .iload_n 2, 1), (41, .iload 5, 2), (43, .iload 4, 2), (45, .invokevirtual 28, 3), (48, .aload_n 0, 1), (49, .invokevirtual 32, 3), (52, .iinc 5 1, 3), (55, .goto (-24), 3), (58, .aload_n 0, 1), (59, .getfield 13, 3), (62, .iload_n 3, 1), (63, .iaload, 1), (64, .ireturn, 1)]
set_option maxRecDepth 100000 in
theorem k_Sha_wordOf : jDec m_Sha_wordOf.2.1 t_Sha_wordOf := by decide +kernel
def y_Sha_fillSchedule : MethodName := ⟨"SharingRoom$Sha256", "fillSchedule", "([BIII)V"⟩
def m_Sha_fillSchedule : jM := ("SharingRoom$Sha256", prog_11_method_3_code, 10, none, "fillSchedule", [])
def t_Sha_fillSchedule : List (Nat × Instr × Nat) := [(0, .iconst 0, 1), (1, .istore 5, 2), (3, .iload 5, 2), (5, .bipush 16, 2), (7, .if_icmp .ge 73, 3), (10, .iload_n 3, 1), (11, .bipush 64, 2), (13, .imul, 1), (14, .iconst 4, 1), (15, .iload 5, 2), (17, .imul, 1), (18, .iadd, 1), (19, .istore 6, 2), (21, .aload_n 0, 1), (22, .getfield 9, 3), (25, .iload 5, 2), (27, .aload_n 1, 1), (28, .iload_n 2, 1), (29, .iload 6, 2), (31, .invokestatic 35, 3), (34, .bipush 24, 2), (36, .ishl, 1), (37, .aload_n 1, 1), (38, .iload_n 2, 1), (39, .iload 6, 2), (41, .iconst 1, 1), (42, .iadd, 1), (43, .invokestatic 35, 3), (46, .bipush 16, 2), (48, .ishl, 1), (49, .ior, 1), (50, .aload_n 1, 1), (51, .iload_n 2, 1), (52, .iload 6, 2), (54, .iconst 2, 1), (55, .iadd, 1), (56, .invokestatic 35, 3), (59, .bipush 8, 2), (61, .ishl, 1), (62, .ior, 1), (63, .aload_n 1, 1), (64, .iload_n 2, 1), (65, .iload 6, 2), (67, .iconst 3, 1), (68, .iadd, 1), (69, .invokestatic 35, 3), (72, .ior, 1), (73, .iastore, 1), (74, .iinc 5 1, 3), (77, .goto (-74), 3), (80, .iload_n 3, 1), (81, .iload 4, 2), (83, .iconst 1, 1), (84, .isub, 1), (85, .if_icmp .ne 14, 3), (88, .aload_n 0, 1), (89, .getfield 9, 3), (92, .bipush 15, 2), (94, .iload_n 2, 1), (95, .bipush 8, 2), (97, .imul, 1), (98, .iastore, 1), (99, .bipush 16, 2), (101, .istore 5, 2), (103, .iload 5, 2), (105, .bipush 64, 2), (107, .if_icmp .ge 111, 3), (110, .aload_n 0, 1), (111, .getfield 9, 3), (114, .iload 5, 2), (116, .bipush 15, 2), (118, .isub, 1), (119, .iaload, 1), (120, .istore 6, 2), (122, .aload_n 0, 1), (123, .getfield 9, 3), (126, .iload 5, 2), (128, .iconst 2, 1), (129, .isub, 1), (130, .iaload, 1), (131, .istore 7, 2), (133, .iload 6, 2), (135, .bipush 7, 2), (137, .invokestatic 39, 3), (140, .iload 6, 2), (142, .bipush 18, 2), (144, .invokestatic 39, 3), (147, .ixor, 1), (148, .iload 6, 2), (150, .iconst 3, 1), (151, .iushr, 1), (152, .ixor, 1), (153, .istore 8, 2), (155, .iload 7, 2), (157, .bipush 17, 2), (159, .invokestatic 39, 3), (162, .iload 7, 2), (164, .bipush 19, 2), (166, .invokestatic 39, 3), (169, .ixor, 1), (170, .iload 7, 2), (172, .bipush 10, 2), (174, .iushr, 1), (175, .ixor, 1), (176, .istore 9, 2), (178, .aload_n 0, 1), (179, .getfield 9, 3), (182, .iload 5, 2), (184, .aload_n 0, 1), (185, .getfield 9, 3), (188, .iload 5, 2), (190, .bipush 16, 2), (192, .isub, 1), (193, .iaload, 1), (194, .iload 8, 2), (196, .iadd, 1), (197, .aload_n 0, 1), (198, .getfield 9, 3), (201, .iload 5, 2), (203, .bipush 7, 2), (205, .isub, 1), (206, .iaload, 1), (207, .iadd, 1), (208, .iload 9, 2), (210, .iadd, 1), (211, .iastore, 1), (212, .iinc 5 1, 3), (215, .goto (-112), 3), (218, .return_, 1)]
set_option maxRecDepth 100000 in
theorem k_Sha_fillSchedule : jDec m_Sha_fillSchedule.2.1 t_Sha_fillSchedule := by decide +kernel
def y_Sha_padded : MethodName := ⟨"SharingRoom$Sha256", "padded", "([BII)I"⟩
def m_Sha_padded : jM := ("SharingRoom$Sha256", prog_11_method_5_code, 3, (some FieldType.int), "padded", [])
def t_Sha_padded : List (Nat × Instr × Nat) := [(0, .iload_n 2, 1), (1, .iload_n 1, 1), (2, .if_icmp .ge 17, 3), (5, .iload_n 2, 1), (6, .aload_n 0, 1), (7, .arraylength, 1), (8, .if_icmp .ge 11, 3), (11, .aload_n 0, 1), (12, .iload_n 2, 1), (13, .baload, 1), (14, .sipush 255, 3), (17, .iand, 1), (18, .ireturn, 1), (19, .iload_n 2, 1), (20, .iload_n 1, 1), (21, .if_icmp .ne 9, 3), (24, .sipush 128, 3), (27, .goto 4, 3), (30, .iconst 0, 1), (31, .ireturn, 1)]
set_option maxRecDepth 100000 in
theorem k_Sha_padded : jDec m_Sha_padded.2.1 t_Sha_padded := by decide +kernel
def y_Sha_turn : MethodName := ⟨"SharingRoom$Sha256", "turn", "(II)I"⟩
def m_Sha_turn : jM := ("SharingRoom$Sha256", prog_11_method_6_code, 2, (some FieldType.int), "turn", [])
def t_Sha_turn : List (Nat × Instr × Nat) := [(0, .iload_n 0, 1), (1, .iload_n 1, 1), (2, .iushr, 1), (3, .iload_n 0, 1), (4, .bipush 32, 2), (6, .iload_n 1, 1), (7, .isub, 1), (8, .ishl, 1), (9, .ior, 1), (10, .ireturn, 1)]
set_option maxRecDepth 100000 in
theorem k_Sha_turn : jDec m_Sha_turn.2.1 t_Sha_turn := by decide +kernel
def y_Sha_mix : MethodName := ⟨"SharingRoom$Sha256", "mix", "()V"⟩
def m_Sha_mix : jM := ("SharingRoom$Sha256", prog_11_method_4_code, 10, none, "mix", [])
def t_Sha_mix : List (Nat × Instr × Nat) := [(0, .aload_n 0, 1), (1, .getfield 13, 3), (4, .iconst 0, 1), (5, .aload_n 0, 1), (6, .getfield 16, 3), (9, .iconst 0, 1), (10, .bipush 8, 2), (12, .invokestatic 22, 3), (15, .iconst 0, 1), (16, .istore_n 1, 1), (17, .iload_n 1, 1), (18, .bipush 64, 2), (20, .if_icmp .ge 205, 3), (23, .aload_n 0, 1), (24, .getfield 16, 3), (27, .iconst 0, 1), (28, .iaload, 1), (29, .istore_n 2, 1), (30, .aload_n 0, 1), (31, .getfield 16, 3), (34, .iconst 4, 1), (35, .iaload, 1), (36, .istore_n 3, 1), (37, .iload_n 3, 1), (38, .aload_n 0, 1), (39, .getfield 16, 3), (42, .iconst 5, 1), (43, .iaload, 1), (44, .iand, 1), (45, .iload_n 3, 1), (46, .iconst (-1), 1), (47, .ixor, 1), (48, .aload_n 0, 1), (49, .getfield 16, 3), (52, .bipush 6, 2), (54, .iaload, 1), (55, .iand, 1), (56, .ixor, 1), (57, .istore 4, 2), (59, .iload_n 2, 1), (60, .aload_n 0, 1), (61, .getfield 16, 3), (64, .iconst 1, 1), (65, .iaload, 1), (66, .iand, 1), (67, .iload_n 2, 1), (68, .aload_n 0, 1), (69, .getfield 16, 3), (72, .iconst 2, 1), (73, .iaload, 1), (74, .iand, 1), (75, .ixor, 1), (76, .aload_n 0, 1), (77, .getfield 16, 3), (80, .iconst 1, 1), (81, .iaload, 1), (82, .aload_n 0, 1), (83, .getfield 16, 3), (86, .iconst 2, 1), (87, .iaload, 1), (88, .iand, 1), (89, .ixor, 1), (90, .istore 5, 2), (92, .iload_n 2, 1), (93, .iconst 2, 1), (94, .invokestatic 39, 3), (97, .iload_n 2, 1), (98, .bipush 13, 2), (100, .invokestatic 39, 3), (103, .ixor, 1), (104, .iload_n 2, 1), (105, .bipush 22, 2), (107, .invokestatic 39, 3), (110, .ixor, 1), (111, .istore 6, 2), (113, .iload_n 3, 1), (114, .bipush 6, 2), (116, .invokestatic 39, 3), (119, .iload_n 3, 1), (120, .bipush 11, 2), (122, .invokestatic 39, 3), (125, .ixor, 1), (126, .iload_n 3, 1), (127, .bipush 25, 2), (129, .invokestatic 39, 3), (132, .ixor, 1), (133, .istore 7, 2), (135, .aload_n 0, 1), (136, .getfield 16, 3), (139, .bipush 7, 2), (141, .iaload, 1), (142, .iload 7, 2), (144, .iadd, 1), (145, .iload 4, 2), (147, .iadd, 1), (148, .getstatic 43, 3), (151, .iload_n 1, 1), (152, .iaload, 1), (153, .iadd, 1), (154, .aload_n 0, 1), (155, .getfield 9, 3), (158, .iload_n 1, 1), (159, .iaload, 1), (160, .iadd, 1), (161, .istore 8, 2), (163, .bipush 7, 2), (165, .istore 9, 2), (167, .iload 9, 2), (169, .ifCond .le 25, 3), (172, .aload_n 0, 1), (173, .getfield 16, 3), (176, .iload 9, 2), (178, .aload_n 0, 1), (179, .getfield 16, 3), (182, .iload 9, 2), (184, .iconst 1, 1), (185, .isub, 1), (186, .iaload, 1), (187, .iastore, 1), (188, .iinc 9 (-1), 3), (191, .goto (-24), 3), (194, .aload_n 0, 1), (195, .getfield 16, 3), (198, .iconst 4, 1), (199, .dup2, 1), (200, .iaload, 1), (201, .iload 8, 2), (203, .iadd, 1), (204, .iastore, 1), (205, .aload_n 0, 1), (206, .getfield 16, 3), (209, .iconst 0, 1), (210, .iload 8, 2), (212, .iload 6, 2), (214, .iadd, 1), (215, .iload 5, 2), (217, .iadd, 1), (218, .iastore, 1), (219, .iinc 1 1, 3), (222, .goto (-205), 3), (225, .iconst 0, 1), (226, .istore_n 1, 1), (227, .iload_n 1, 1), (228, .bipush 8, 2), (230, .if_icmp .ge 24, 3), (233, .aload_n 0, 1), (234, .getfield 13, 3), (237, .iload_n 1, 1), (238, .dup2, 1), (239, .iaload, 1), (240, .aload_n 0, 1), (241, .getfield 16, 3), (244, .iload_n 1, 1), (245, .iaload, 1), (246, .iadd, 1), (247, .iastore, 1), (248, .iinc 1 1, 3), (251, .goto (-24), 3), (254, .return_, 1)]
set_option maxRecDepth 100000 in
theorem k_Sha_mix : jDec m_Sha_mix.2.1 t_Sha_mix := by decide +kernel
def y_Law_recover : MethodName := ⟨"SharingRoomLaw", "recover", "(LSharingRoom;I[J)I"⟩
def m_Law_recover : jM := ("SharingRoomLaw", method_17_code, 4, (some FieldType.int), "recover", [(0, 9, 12, 19), (0, 9, 15, 13)])
def t_Law_recover : List (Nat × Instr × Nat) := [(0, .aload_n 2, 1), (1, .iconst 0, 1), (2, .aload_n 0, 1), (3, .iload_n 1, 1), (4, .invokevirtual 65, 3), (7, .i2l, 1), (8, .lastore, 1), (9, .goto 9, 3), (12, .astore_n 3, 1), (13, .iconst 1, 1), (14, .ireturn, 1), (15, .astore_n 3, 1), (16, .iconst 2, 1), (17, .ireturn, 1), (18, .iconst 0, 1), (19, .ireturn, 1)]
set_option maxRecDepth 100000 in
theorem k_Law_recover : jDec m_Law_recover.2.1 t_Law_recover := by decide +kernel
def y_SR_recover : MethodName := ⟨"SharingRoom", "recover", "(I)I"⟩
def m_SR_recover : jM := ("SharingRoom", prog_1_method_21_code, 2, (some FieldType.int), "recover", [])
def t_SR_recover : List (Nat × Instr × Nat) := [(0, .aload_n 0, 1), (1, .invokevirtual 204, 3), (4, .aload_n 0, 1), (5, .iload_n 1, 1), (6, .invokevirtual 207, 3), (9, .aload_n 0, 1), (10, .getfield 43, 3), (13, .iload_n 1, 1), (14, .invokevirtual 210, 3), (17, .ireturn, 1)]
set_option maxRecDepth 100000 in
theorem k_SR_recover : jDec m_SR_recover.2.1 t_SR_recover := by decide +kernel
def y_SR_needDone : MethodName := ⟨"SharingRoom", "needDone", "()V"⟩
def m_SR_needDone : jM := ("SharingRoom", prog_1_method_25_code, 1, none, "needDone", [])
def t_SR_needDone : List (Nat × Instr × Nat) := [(0, .aload_n 0, 1), (1, .getfield 43, 3), (4, .invokevirtual 145, 3), (7, .iconst 2, 1), (8, .if_icmp .eq 13, 3), (11, .new 70, 3), (14, .dup, 1), (15, .ldc 226, 2), (17, .invokespecial 74, 3), (20, .athrow, 1), (21, .return_, 1)]
set_option maxRecDepth 100000 in
theorem k_SR_needDone : jDec m_SR_needDone.2.1 t_SR_needDone := by decide +kernel
def y_SR_needEnough : MethodName := ⟨"SharingRoom", "needEnough", "(I)V"⟩
def m_SR_needEnough : jM := ("SharingRoom", prog_1_method_29_code, 2, none, "needEnough", [])
def t_SR_needEnough : List (Nat × Instr × Nat) := [(0, .aload_n 0, 1), (1, .getfield 43, 3), (4, .iload_n 1, 1), (5, .invokevirtual 240, 3), (8, .ifCond .ne 13, 3), (11, .new 47, 3), (14, .dup, 1), (15, .ldc 243, 2), (17, .invokespecial 51, 3), (20, .athrow, 1), (21, .return_, 1)]
set_option maxRecDepth 100000 in
theorem k_SR_needEnough : jDec m_SR_needEnough.2.1 t_SR_needEnough := by decide +kernel
def y_Room_isEnough : MethodName := ⟨"SharingRoom$Room", "isEnough", "(I)Z"⟩
def m_Room_isEnough : jM := ("SharingRoom$Room", prog_10_method_6_code, 2, (some FieldType.boolean), "isEnough", [])
def t_Room_isEnough : List (Nat × Instr × Nat) := [(0, .iload_n 1, 1), (1, .aload_n 0, 1), (2, .invokevirtual 62, 3), (5, .iconst (-1), 1), (6, .ixor, 1), (7, .iand, 1), (8, .ifCond .ne 18, 3), (11, .iload_n 1, 1), (12, .invokestatic 66, 3), (15, .aload_n 0, 1), (16, .getfield 59, 3), (19, .if_icmp .lt 7, 3), (22, .iconst 1, 1), (23, .goto 4, 3), (26, .iconst 0, 1), (27, .ireturn, 1)]
set_option maxRecDepth 100000 in
theorem k_Room_isEnough : jDec m_Room_isEnough.2.1 t_Room_isEnough := by decide +kernel
def y_Room_secretOf : MethodName := ⟨"SharingRoom$Room", "secretOf", "(I)I"⟩
def m_Room_secretOf : jM := ("SharingRoom$Room", prog_10_method_41_code, 2, (some FieldType.int), "secretOf", [])
def t_Room_secretOf : List (Nat × Instr × Nat) := [(0, .aload_n 0, 1), (1, .iload_n 1, 1), (2, .invokevirtual 266, 3), (5, .aload_n 0, 1), (6, .getfield 50, 3), (9, .iconst 0, 1), (10, .invokevirtual 258, 3), (13, .ireturn, 1)]
set_option maxRecDepth 100000 in
theorem k_Room_secretOf : jDec m_Room_secretOf.2.1 t_Room_secretOf := by decide +kernel
def y_Room_collectShares : MethodName := ⟨"SharingRoom$Room", "collectShares", "(I)V"⟩
def m_Room_collectShares : jM := ("SharingRoom$Room", prog_10_method_47_code, 3, none, "collectShares", [])
def t_Room_collectShares : List (Nat × Instr × Nat) := [(0, .aload_n 0, 1), (1, .getfield 50, 3), (4, .aload_n 0, 1), (5, .getfield 42, 3), (8, .invokevirtual 261, 3), (11, .iconst 1, 1), (12, .istore_n 2, 1), (13, .iload_n 2, 1), (14, .aload_n 0, 1), (15, .getfield 55, 3), (18, .if_icmp .gt 36, 3), (21, .iload_n 1, 1), (22, .iload_n 2, 1), (23, .invokestatic 130, 3), (26, .iand, 1), (27, .ifCond .eq 21, 3), (30, .aload_n 0, 1), (31, .getfield 50, 3), (34, .iload_n 2, 1), (35, .aload_n 0, 1), (36, .iload_n 2, 1), (37, .invokevirtual 96, 3), (40, .getfield 141, 3), (43, .iconst 0, 1), (44, .iaload, 1), (45, .invokevirtual 263, 3), (48, .iinc 2 1, 3), (51, .goto (-38), 3), (54, .return_, 1)]
set_option maxRecDepth 100000 in
theorem k_Room_collectShares : jDec m_Room_collectShares.2.1 t_Room_collectShares := by decide +kernel
def y_Law_refresh : MethodName := ⟨"SharingRoomLaw", "refresh", "(LSharingRoom;)I"⟩
def m_Law_refresh : jM := ("SharingRoomLaw", method_18_code, 2, (some FieldType.int), "refresh", [(0, 4, 7, 19)])
def t_Law_refresh : List (Nat × Instr × Nat) := [(0, .aload_n 0, 1), (1, .invokevirtual 68, 3), (4, .goto 6, 3), (7, .astore_n 1, 1), (8, .iconst 1, 1), (9, .ireturn, 1), (10, .iconst 0, 1), (11, .ireturn, 1)]
set_option maxRecDepth 100000 in
theorem k_Law_refresh : jDec m_Law_refresh.2.1 t_Law_refresh := by decide +kernel
def y_SR_refresh : MethodName := ⟨"SharingRoom", "refresh", "()V"⟩
def m_SR_refresh : jM := ("SharingRoom", prog_1_method_22_code, 1, none, "refresh", [])
def t_SR_refresh : List (Nat × Instr × Nat) := [(0, .aload_n 0, 1), (1, .invokevirtual 204, 3), (4, .aload_n 0, 1), (5, .getfield 43, 3), (8, .invokevirtual 213, 3), (11, .return_, 1)]
set_option maxRecDepth 100000 in
theorem k_SR_refresh : jDec m_SR_refresh.2.1 t_SR_refresh := by decide +kernel
def y_Room_renewShares : MethodName := ⟨"SharingRoom$Room", "renewShares", "()V"⟩
def m_Room_renewShares : jM := ("SharingRoom$Room", prog_10_method_42_code, 4, none, "renewShares", [])
def t_Room_renewShares : List (Nat × Instr × Nat) := [(0, .iconst 1, 1), (1, .istore_n 1, 1), (2, .iload_n 1, 1), (3, .aload_n 0, 1), (4, .getfield 55, 3), (7, .if_icmp .gt 74, 3), (10, .aload_n 0, 1), (11, .iload_n 1, 1), (12, .invokevirtual 96, 3), (15, .getfield 141, 3), (18, .iconst 0, 1), (19, .iaload, 1), (20, .istore_n 2, 1), (21, .iconst 1, 1), (22, .istore_n 3, 1), (23, .iload_n 3, 1), (24, .aload_n 0, 1), (25, .getfield 55, 3), (28, .if_icmp .gt 40, 3), (31, .aload_n 0, 1), (32, .iload_n 3, 1), (33, .invokevirtual 96, 3), (36, .invokevirtual 126, 3), (39, .ifCond .eq 23, 3), (42, .aload_n 0, 1), (43, .getfield 42, 3), (46, .iload_n 2, 1), (47, .aload_n 0, 1), (48, .iconst 0, 1), (49, .iload_n 3, 1), (50, .aload_n 0, 1), (51, .getfield 59, 3), (54, .iload_n 1, 1), (55, .invokevirtual 269, 3), (58, .invokevirtual 190, 3), (61, .istore_n 2, 1), (62, .iinc 3 1, 3), (65, .goto (-42), 3), (68, .aload_n 0, 1), (69, .getfield 24, 3), (72, .iload_n 1, 1), (73, .iload_n 2, 1), (74, .iastore, 1), (75, .iinc 1 1, 3), (78, .goto (-76), 3), (81, .aload_n 0, 1), (82, .invokevirtual 273, 3), (85, .return_, 1)]
set_option maxRecDepth 100000 in
theorem k_Room_renewShares : jDec m_Room_renewShares.2.1 t_Room_renewShares := by decide +kernel
def y_Room_dealtFrom : MethodName := ⟨"SharingRoom$Room", "dealtFrom", "(IIII)I"⟩
def m_Room_dealtFrom : jM := ("SharingRoom$Room", prog_10_method_45_code, 5, (some FieldType.int), "dealtFrom", [])
def t_Room_dealtFrom : List (Nat × Instr × Nat) := [(0, .aload_n 0, 1), (1, .getfield 42, 3), (4, .iload_n 1, 1), (5, .aload_n 0, 1), (6, .iload_n 2, 1), (7, .invokevirtual 96, 3), (10, .getfield 101, 3), (13, .iconst 0, 1), (14, .aaload, 1), (15, .iload_n 3, 1), (16, .iload 4, 2), (18, .invokevirtual 292, 3), (21, .ireturn, 1)]
set_option maxRecDepth 100000 in
theorem k_Room_dealtFrom : jDec m_Room_dealtFrom.2.1 t_Room_dealtFrom := by decide +kernel
def y_Room_takeNewShares : MethodName := ⟨"SharingRoom$Room", "takeNewShares", "()V"⟩
def m_Room_takeNewShares : jM := ("SharingRoom$Room", prog_10_method_46_code, 2, none, "takeNewShares", [])
def t_Room_takeNewShares : List (Nat × Instr × Nat) := [(0, .iconst 1, 1), (1, .istore_n 1, 1), (2, .iload_n 1, 1), (3, .bipush 7, 2), (5, .if_icmp .gt 44, 3), (8, .aload_n 0, 1), (9, .iload_n 1, 1), (10, .invokevirtual 96, 3), (13, .invokevirtual 296, 3), (16, .aload_n 0, 1), (17, .iload_n 1, 1), (18, .invokevirtual 96, 3), (21, .getfield 141, 3), (24, .iconst 0, 1), (25, .aload_n 0, 1), (26, .getfield 24, 3), (29, .iload_n 1, 1), (30, .iaload, 1), (31, .iastore, 1), (32, .aload_n 0, 1), (33, .iload_n 1, 1), (34, .invokevirtual 96, 3), (37, .getfield 141, 3), (40, .iconst 1, 1), (41, .iconst 0, 1), (42, .iastore, 1), (43, .iinc 1 1, 3), (46, .goto (-44), 3), (49, .return_, 1)]
set_option maxRecDepth 100000 in
theorem k_Room_takeNewShares : jDec m_Room_takeNewShares.2.1 t_Room_takeNewShares := by decide +kernel
def y_Law_handOn : MethodName := ⟨"SharingRoomLaw", "handOn", "(LSharingRoom;III)I"⟩
def m_Law_handOn : jM := ("SharingRoomLaw", method_19_code, 5, (some FieldType.int), "handOn", [(0, 7, 10, 19), (0, 7, 14, 13)])
def t_Law_handOn : List (Nat × Instr × Nat) := [(0, .aload_n 0, 1), (1, .iload_n 1, 1), (2, .iload_n 2, 1), (3, .iload_n 3, 1), (4, .invokevirtual 71, 3), (7, .goto 11, 3), (10, .astore 4, 2), (12, .iconst 1, 1), (13, .ireturn, 1), (14, .astore 4, 2), (16, .iconst 2, 1), (17, .ireturn, 1), (18, .iconst 0, 1), (19, .ireturn, 1)]
set_option maxRecDepth 100000 in
theorem k_Law_handOn : jDec m_Law_handOn.2.1 t_Law_handOn := by decide +kernel
def y_SR_handOn : MethodName := ⟨"SharingRoom", "handOn", "(III)V"⟩
def m_SR_handOn : jM := ("SharingRoom", prog_1_method_23_code, 4, none, "handOn", [])
def t_SR_handOn : List (Nat × Instr × Nat) := [(0, .aload_n 0, 1), (1, .invokevirtual 204, 3), (4, .aload_n 0, 1), (5, .iload_n 1, 1), (6, .invokevirtual 207, 3), (9, .iload_n 3, 1), (10, .iload_n 2, 1), (11, .invokestatic 97, 3), (14, .ifCond .ne 13, 3), (17, .new 47, 3), (20, .dup, 1), (21, .ldc 216, 2), (23, .invokespecial 51, 3), (26, .athrow, 1), (27, .aload_n 0, 1), (28, .getfield 43, 3), (31, .iload_n 1, 1), (32, .iload_n 2, 1), (33, .iload_n 3, 1), (34, .invokevirtual 218, 3), (37, .return_, 1)]
set_option maxRecDepth 100000 in
theorem k_SR_handOn : jDec m_SR_handOn.2.1 t_SR_handOn := by decide +kernel
def y_Room_handTo : MethodName := ⟨"SharingRoom$Room", "handTo", "(III)V"⟩
def m_Room_handTo : jM := ("SharingRoom$Room", prog_10_method_43_code, 7, none, "handTo", [])
def t_Room_handTo : List (Nat × Instr × Nat) := [(0, .aload_n 0, 1), (1, .iload_n 1, 1), (2, .invokevirtual 266, 3), (5, .aload_n 0, 1), (6, .getfield 24, 3), (9, .iconst 0, 1), (10, .invokestatic 276, 3), (13, .iconst 0, 1), (14, .istore 4, 2), (16, .iconst 1, 1), (17, .istore 5, 2), (19, .iload 5, 2), (21, .aload_n 0, 1), (22, .getfield 55, 3), (25, .if_icmp .gt 44, 3), (28, .iload_n 1, 1), (29, .iload 5, 2), (31, .invokestatic 130, 3), (34, .iand, 1), (35, .ifCond .eq 28, 3), (38, .aload_n 0, 1), (39, .getfield 50, 3), (42, .iload 4, 2), (44, .iconst 0, 1), (45, .invokevirtual 282, 3), (48, .istore 6, 2), (50, .iinc 4 1, 3), (53, .aload_n 0, 1), (54, .iload 5, 2), (56, .iload 6, 2), (58, .iload_n 2, 1), (59, .iload_n 3, 1), (60, .invokevirtual 285, 3), (63, .iinc 5 1, 3), (66, .goto (-47), 3), (69, .aload_n 0, 1), (70, .iload_n 3, 1), (71, .putfield 55, 3), (74, .aload_n 0, 1), (75, .iload_n 2, 1), (76, .putfield 59, 3), (79, .aload_n 0, 1), (80, .invokevirtual 273, 3), (83, .return_, 1)]
set_option maxRecDepth 100000 in
theorem k_Room_handTo : jDec m_Room_handTo.2.1 t_Room_handTo := by decide +kernel
def y_Room_addDealt : MethodName := ⟨"SharingRoom$Room", "addDealt", "(IIII)V"⟩
def m_Room_addDealt : jM := ("SharingRoom$Room", prog_10_method_44_code, 7, none, "addDealt", [])
def t_Room_addDealt : List (Nat × Instr × Nat) := [(0, .iconst 1, 1), (1, .istore 5, 2), (3, .iload 5, 2), (5, .iload 4, 2), (7, .if_icmp .gt 60, 3), (10, .aload_n 0, 1), (11, .aload_n 0, 1), (12, .iload_n 1, 1), (13, .invokevirtual 96, 3), (16, .getfield 141, 3), (19, .iconst 0, 1), (20, .iaload, 1), (21, .iload_n 1, 1), (22, .iload_n 3, 1), (23, .iload 5, 2), (25, .invokevirtual 269, 3), (28, .istore 6, 2), (30, .aload_n 0, 1), (31, .getfield 24, 3), (34, .iload 5, 2), (36, .aload_n 0, 1), (37, .getfield 42, 3), (40, .aload_n 0, 1), (41, .getfield 24, 3), (44, .iload 5, 2), (46, .iaload, 1), (47, .aload_n 0, 1), (48, .getfield 42, 3), (51, .iload_n 2, 1), (52, .iload 6, 2), (54, .invokevirtual 289, 3), (57, .invokevirtual 190, 3), (60, .iastore, 1), (61, .iinc 5 1, 3), (64, .goto (-61), 3), (67, .return_, 1)]
set_option maxRecDepth 100000 in
theorem k_Room_addDealt : jDec m_Room_addDealt.2.1 t_Room_addDealt := by decide +kernel
def y_Mod_init : MethodName := ⟨"SharingRoomModel", "<init>", "()V"⟩
def m_Mod_init : jM := ("SharingRoomModel", prog_14_method_1_code, 3, none, "<init>", [])
def t_Mod_init_0 : List (Nat × Instr × Nat) := [(0, .aload_n 0, 1), (1, .invokespecial 1, 3), (4, .aload_n 0, 1), (5, .bipush 12, 2), (7, .newarray .int, 2), (9, .putfield 7, 3), (12, .aload_n 0, 1), (13, .bipush 12, 2), (15, .newarray .int, 2), (17, .putfield 13, 3), (20, .aload_n 0, 1), (21, .bipush 12, 2), (23, .newarray .int, 2), (25, .putfield 16, 3), (28, .aload_n 0, 1), (29, .sipush 1019, 3), (32, .newarray .int, 2), (34, .putfield 19, 3), (37, .aload_n 0, 1), (38, .bipush 31, 2), (40, .newarray .int, 2), (42, .putfield 22, 3), (45, .aload_n 0, 1), (46, .iconst 2, 1), (47, .newarray .int, 2), (49, .putfield 25, 3), (52, .aload_n 0, 1), (53, .bipush 49, 2), (55, .newarray .int, 2), (57, .putfield 28, 3), (60, .aload_n 0, 1), (61, .bipush 49, 2), (63, .newarray .int, 2), (65, .putfield 31, 3), (68, .aload_n 0, 1), (69, .bipush 49, 2), (71, .newarray .int, 2), (73, .putfield 34, 3), (76, .aload_n 0, 1), (77, .bipush 7, 2)]
set_option maxRecDepth 100000 in
theorem k_Mod_init_0 : jDec m_Mod_init.2.1 t_Mod_init_0 := by decide +kernel
def t_Mod_init_1 : List (Nat × Instr × Nat) := [(79, .newarray .int, 2), (81, .putfield 37, 3), (84, .aload_n 0, 1), (85, .bipush 7, 2), (87, .newarray .int, 2), (89, .putfield 40, 3), (92, .aload_n 0, 1), (93, .bipush 7, 2), (95, .newarray .int, 2), (97, .putfield 43, 3), (100, .aload_n 0, 1), (101, .bipush 49, 2), (103, .newarray .int, 2), (105, .putfield 46, 3), (108, .aload_n 0, 1), (109, .bipush 49, 2), (111, .newarray .int, 2), (113, .putfield 49, 3), (116, .aload_n 0, 1), (117, .bipush 49, 2), (119, .newarray .int, 2), (121, .putfield 52, 3), (124, .aload_n 0, 1), (125, .bipush 49, 2), (127, .newarray .int, 2), (129, .putfield 55, 3), (132, .aload_n 0, 1), (133, .bipush 49, 2), (135, .newarray .int, 2), (137, .putfield 58, 3), (140, .aload_n 0, 1), (141, .bipush 49, 2), (143, .newarray .int, 2), (145, .putfield 61, 3), (148, .aload_n 0, 1), (149, .bipush 7, 2), (151, .newarray .int, 2), (153, .putfield 64, 3), (156, .aload_n 0, 1), (157, .bipush 7, 2)]
set_option maxRecDepth 100000 in
theorem k_Mod_init_1 : jDec m_Mod_init.2.1 t_Mod_init_1 := by decide +kernel
def t_Mod_init_2 : List (Nat × Instr × Nat) := [(159, .newarray .int, 2), (161, .putfield 67, 3), (164, .aload_n 0, 1), (165, .bipush 7, 2), (167, .newarray .int, 2), (169, .putfield 70, 3), (172, .aload_n 0, 1), (173, .sipush 1100, 3), (176, .newarray .int, 2), (178, .putfield 73, 3), (181, .aload_n 0, 1), (182, .bipush 32, 2), (184, .newarray .int, 2), (186, .dup, 1), (187, .iconst 0, 1), (188, .ldc 76, 2), (190, .iastore, 1), (191, .dup, 1), (192, .iconst 1, 1), (193, .ldc 77, 2), (195, .iastore, 1), (196, .dup, 1), (197, .iconst 2, 1), (198, .ldc 78, 2), (200, .iastore, 1), (201, .dup, 1), (202, .iconst 3, 1), (203, .ldc 79, 2), (205, .iastore, 1), (206, .dup, 1), (207, .iconst 4, 1), (208, .ldc 80, 2), (210, .iastore, 1), (211, .dup, 1), (212, .iconst 5, 1), (213, .ldc 81, 2), (215, .iastore, 1), (216, .dup, 1), (217, .bipush 6, 2), (219, .ldc 82, 2)]
set_option maxRecDepth 100000 in
theorem k_Mod_init_2 : jDec m_Mod_init.2.1 t_Mod_init_2 := by decide +kernel
def t_Mod_init_3 : List (Nat × Instr × Nat) := [(221, .iastore, 1), (222, .dup, 1), (223, .bipush 7, 2), (225, .ldc 83, 2), (227, .iastore, 1), (228, .dup, 1), (229, .bipush 8, 2), (231, .ldc 84, 2), (233, .iastore, 1), (234, .dup, 1), (235, .bipush 9, 2), (237, .ldc 85, 2), (239, .iastore, 1), (240, .dup, 1), (241, .bipush 10, 2), (243, .ldc 86, 2), (245, .iastore, 1), (246, .dup, 1), (247, .bipush 11, 2), (249, .ldc 87, 2), (251, .iastore, 1), (252, .dup, 1), (253, .bipush 12, 2), (255, .ldc 88, 2), (257, .iastore, 1), (258, .dup, 1), (259, .bipush 13, 2), (261, .ldc 89, 2), (263, .iastore, 1), (264, .dup, 1), (265, .bipush 14, 2), (267, .ldc 90, 2), (269, .iastore, 1), (270, .dup, 1), (271, .bipush 15, 2), (273, .ldc 91, 2), (275, .iastore, 1), (276, .dup, 1), (277, .bipush 16, 2), (279, .ldc 92, 2)]
set_option maxRecDepth 100000 in
theorem k_Mod_init_3 : jDec m_Mod_init.2.1 t_Mod_init_3 := by decide +kernel
def t_Mod_init_4 : List (Nat × Instr × Nat) := [(281, .iastore, 1), (282, .dup, 1), (283, .bipush 17, 2), (285, .ldc 93, 2), (287, .iastore, 1), (288, .dup, 1), (289, .bipush 18, 2), (291, .ldc 94, 2), (293, .iastore, 1), (294, .dup, 1), (295, .bipush 19, 2), (297, .ldc 95, 2), (299, .iastore, 1), (300, .dup, 1), (301, .bipush 20, 2), (303, .ldc 96, 2), (305, .iastore, 1), (306, .dup, 1), (307, .bipush 21, 2), (309, .ldc 97, 2), (311, .iastore, 1), (312, .dup, 1), (313, .bipush 22, 2), (315, .ldc 98, 2), (317, .iastore, 1), (318, .dup, 1), (319, .bipush 23, 2), (321, .ldc 99, 2), (323, .iastore, 1), (324, .dup, 1), (325, .bipush 24, 2), (327, .ldc 100, 2), (329, .iastore, 1), (330, .dup, 1), (331, .bipush 25, 2), (333, .ldc 101, 2), (335, .iastore, 1), (336, .dup, 1), (337, .bipush 26, 2), (339, .ldc 102, 2)]
set_option maxRecDepth 100000 in
theorem k_Mod_init_4 : jDec m_Mod_init.2.1 t_Mod_init_4 := by decide +kernel
def t_Mod_init_5 : List (Nat × Instr × Nat) := [(341, .iastore, 1), (342, .dup, 1), (343, .bipush 27, 2), (345, .ldc 103, 2), (347, .iastore, 1), (348, .dup, 1), (349, .bipush 28, 2), (351, .ldc 104, 2), (353, .iastore, 1), (354, .dup, 1), (355, .bipush 29, 2), (357, .ldc 105, 2), (359, .iastore, 1), (360, .dup, 1), (361, .bipush 30, 2), (363, .ldc 106, 2), (365, .iastore, 1), (366, .dup, 1), (367, .bipush 31, 2), (369, .ldc 107, 2), (371, .iastore, 1), (372, .putfield 108, 3), (375, .aload_n 0, 1), (376, .bipush 32, 2), (378, .newarray .int, 2), (380, .dup, 1), (381, .iconst 0, 1), (382, .ldc 111, 2), (384, .iastore, 1), (385, .dup, 1), (386, .iconst 1, 1), (387, .ldc 112, 2), (389, .iastore, 1), (390, .dup, 1), (391, .iconst 2, 1), (392, .ldc 113, 2), (394, .iastore, 1), (395, .dup, 1), (396, .iconst 3, 1), (397, .ldc 114, 2)]
set_option maxRecDepth 100000 in
theorem k_Mod_init_5 : jDec m_Mod_init.2.1 t_Mod_init_5 := by decide +kernel
def t_Mod_init_6 : List (Nat × Instr × Nat) := [(399, .iastore, 1), (400, .dup, 1), (401, .iconst 4, 1), (402, .ldc 115, 2), (404, .iastore, 1), (405, .dup, 1), (406, .iconst 5, 1), (407, .ldc 116, 2), (409, .iastore, 1), (410, .dup, 1), (411, .bipush 6, 2), (413, .ldc 117, 2), (415, .iastore, 1), (416, .dup, 1), (417, .bipush 7, 2), (419, .ldc 118, 2), (421, .iastore, 1), (422, .dup, 1), (423, .bipush 8, 2), (425, .ldc 119, 2), (427, .iastore, 1), (428, .dup, 1), (429, .bipush 9, 2), (431, .ldc 120, 2), (433, .iastore, 1), (434, .dup, 1), (435, .bipush 10, 2), (437, .ldc 121, 2), (439, .iastore, 1), (440, .dup, 1), (441, .bipush 11, 2), (443, .ldc 122, 2), (445, .iastore, 1), (446, .dup, 1), (447, .bipush 12, 2), (449, .ldc 123, 2), (451, .iastore, 1), (452, .dup, 1), (453, .bipush 13, 2), (455, .ldc 124, 2)]
set_option maxRecDepth 100000 in
theorem k_Mod_init_6 : jDec m_Mod_init.2.1 t_Mod_init_6 := by decide +kernel
def t_Mod_init_7 : List (Nat × Instr × Nat) := [(457, .iastore, 1), (458, .dup, 1), (459, .bipush 14, 2), (461, .ldc 125, 2), (463, .iastore, 1), (464, .dup, 1), (465, .bipush 15, 2), (467, .ldc 126, 2), (469, .iastore, 1), (470, .dup, 1), (471, .bipush 16, 2), (473, .ldc 127, 2), (475, .iastore, 1), (476, .dup, 1), (477, .bipush 17, 2), (479, .ldc 128, 2), (481, .iastore, 1), (482, .dup, 1), (483, .bipush 18, 2), (485, .ldc 129, 2), (487, .iastore, 1), (488, .dup, 1), (489, .bipush 19, 2), (491, .ldc 130, 2), (493, .iastore, 1), (494, .dup, 1), (495, .bipush 20, 2), (497, .ldc 131, 2), (499, .iastore, 1), (500, .dup, 1), (501, .bipush 21, 2), (503, .ldc 132, 2), (505, .iastore, 1), (506, .dup, 1), (507, .bipush 22, 2), (509, .ldc 133, 2), (511, .iastore, 1), (512, .dup, 1), (513, .bipush 23, 2), (515, .ldc 134, 2)]
set_option maxRecDepth 100000 in
theorem k_Mod_init_7 : jDec m_Mod_init.2.1 t_Mod_init_7 := by decide +kernel
def t_Mod_init_8 : List (Nat × Instr × Nat) := [(517, .iastore, 1), (518, .dup, 1), (519, .bipush 24, 2), (521, .ldc 135, 2), (523, .iastore, 1), (524, .dup, 1), (525, .bipush 25, 2), (527, .ldc 136, 2), (529, .iastore, 1), (530, .dup, 1), (531, .bipush 26, 2), (533, .ldc 137, 2), (535, .iastore, 1), (536, .dup, 1), (537, .bipush 27, 2), (539, .ldc 138, 2), (541, .iastore, 1), (542, .dup, 1), (543, .bipush 28, 2), (545, .ldc 139, 2), (547, .iastore, 1), (548, .dup, 1), (549, .bipush 29, 2), (551, .ldc 140, 2), (553, .iastore, 1), (554, .dup, 1), (555, .bipush 30, 2), (557, .ldc 141, 2), (559, .iastore, 1), (560, .dup, 1), (561, .bipush 31, 2), (563, .ldc 142, 2), (565, .iastore, 1), (566, .putfield 143, 3), (569, .aload_n 0, 1), (570, .bipush 8, 2), (572, .newarray .int, 2), (574, .putfield 146, 3), (577, .aload_n 0, 1), (578, .bipush 8, 2)]
set_option maxRecDepth 100000 in
theorem k_Mod_init_8 : jDec m_Mod_init.2.1 t_Mod_init_8 := by decide +kernel
def t_Mod_init_9 : List (Nat × Instr × Nat) := [(580, .newarray .int, 2), (582, .dup, 1), (583, .iconst 0, 1), (584, .ldc 149, 2), (586, .iastore, 1), (587, .dup, 1), (588, .iconst 1, 1), (589, .ldc 150, 2), (591, .iastore, 1), (592, .dup, 1), (593, .iconst 2, 1), (594, .ldc 151, 2), (596, .iastore, 1), (597, .dup, 1), (598, .iconst 3, 1), (599, .ldc 152, 2), (601, .iastore, 1), (602, .dup, 1), (603, .iconst 4, 1), (604, .ldc 153, 2), (606, .iastore, 1), (607, .dup, 1), (608, .iconst 5, 1), (609, .ldc 154, 2), (611, .iastore, 1), (612, .dup, 1), (613, .bipush 6, 2), (615, .ldc 155, 2), (617, .iastore, 1), (618, .dup, 1), (619, .bipush 7, 2), (621, .ldc 156, 2), (623, .iastore, 1), (624, .putfield 157, 3), (627, .aload_n 0, 1), (628, .bipush 64, 2), (630, .newarray .int, 2), (632, .putfield 160, 3), (635, .aload_n 0, 1), (636, .bipush 8, 2)]
set_option maxRecDepth 100000 in
theorem k_Mod_init_9 : jDec m_Mod_init.2.1 t_Mod_init_9 := by decide +kernel
def t_Mod_init_10 : List (Nat × Instr × Nat) := [(638, .newarray .int, 2), (640, .putfield 163, 3), (643, .iconst 1, 1), (644, .istore_n 1, 1), (645, .iconst 0, 1), (646, .istore_n 2, 1), (647, .iload_n 2, 1), (648, .sipush 1019, 3), (651, .if_icmp .ge 24, 3), (654, .aload_n 0, 1), (655, .getfield 19, 3), (658, .iload_n 2, 1), (659, .iload_n 1, 1), (660, .iastore, 1), (661, .iload_n 1, 1), (662, .iconst 4, 1), (663, .imul, 1), (664, .sipush 2039, 3), (667, .irem, 1), (668, .istore_n 1, 1), (669, .iinc 2 1, 3), (672, .goto (-25), 3), (675, .aload_n 0, 1), (676, .getfield 22, 3), (679, .iconst 0, 1), (680, .sipush 4000, 3), (683, .iastore, 1), (684, .aload_n 0, 1), (685, .getfield 22, 3), (688, .iconst 1, 1), (689, .sipush 140, 3), (692, .iastore, 1), (693, .iconst 2, 1), (694, .istore_n 2, 1), (695, .iload_n 2, 1), (696, .bipush 31, 2), (698, .if_icmp .ge 26, 3), (701, .aload_n 0, 1), (702, .getfield 22, 3), (705, .iload_n 2, 1)]
set_option maxRecDepth 100000 in
theorem k_Mod_init_10 : jDec m_Mod_init.2.1 t_Mod_init_10 := by decide +kernel
def t_Mod_init_11 : List (Nat × Instr × Nat) := [(706, .aload_n 0, 1), (707, .getfield 22, 3), (710, .iload_n 2, 1), (711, .iconst 1, 1), (712, .isub, 1), (713, .iaload, 1), (714, .invokestatic 166, 3), (717, .iastore, 1), (718, .iinc 2 1, 3), (721, .goto (-26), 3), (724, .aload_n 0, 1), (725, .getfield 19, 3), (728, .aload_n 0, 1), (729, .getfield 25, 3), (732, .iconst 0, 1), (733, .iaload, 1), (734, .iaload, 1), (735, .bipush 9, 2), (737, .if_icmp .eq 16, 3), (740, .aload_n 0, 1), (741, .getfield 25, 3), (744, .iconst 0, 1), (745, .dup2, 1), (746, .iaload, 1), (747, .iconst 1, 1), (748, .iadd, 1), (749, .iastore, 1), (750, .goto (-26), 3), (753, .aload_n 0, 1), (754, .getfield 22, 3), (757, .aload_n 0, 1), (758, .getfield 25, 3), (761, .iconst 1, 1), (762, .iaload, 1), (763, .iaload, 1), (764, .sipush 1362, 3), (767, .if_icmp .eq 16, 3), (770, .aload_n 0, 1), (771, .getfield 25, 3), (774, .iconst 1, 1)]
set_option maxRecDepth 100000 in
theorem k_Mod_init_11 : jDec m_Mod_init.2.1 t_Mod_init_11 := by decide +kernel
def t_Mod_init_12 : List (Nat × Instr × Nat) := [(775, .dup2, 1), (776, .iaload, 1), (777, .iconst 1, 1), (778, .iadd, 1), (779, .iastore, 1), (780, .goto (-27), 3), (783, .return_, 1)]
set_option maxRecDepth 100000 in
theorem k_Mod_init_12 : jDec m_Mod_init.2.1 t_Mod_init_12 := by decide +kernel
end
section
def y_Mod_added : MethodName := ⟨"SharingRoomModel", "added", "(I)I"⟩
def m_Mod_added : jM := ("SharingRoomModel", prog_14_method_4_code, 8, (some FieldType.int), "added", [])
def t_Mod_added : List (Nat × Instr × Nat) := [(0, .iload_n 0, 1), (1, .bipush 64, 2), (3, .idiv, 1), (4, .istore_n 1, 1), (5, .iload_n 0, 1), (6, .bipush 64, 2), (8, .irem, 1), (9, .istore_n 2, 1), (10, .iload_n 1, 1), (11, .iconst 2, 1), (12, .if_icmp .ne 17, 3), (15, .iload_n 2, 1), (16, .bipush 12, 2), (18, .if_icmp .ne 11, 3), (21, .iconst 3, 1), (22, .iload_n 1, 1), (23, .imul, 1), (24, .iload_n 1, 1), (25, .imul, 1), (26, .goto 10, 3), (29, .iload_n 2, 1), (30, .bipush 12, 2), (32, .isub, 1), (33, .bipush 43, 2), (35, .iadd, 1), (36, .istore_n 3, 1), (37, .iload_n 1, 1), (38, .iconst 2, 1), (39, .if_icmp .ne 15, 3), (42, .iload_n 2, 1), (43, .bipush 12, 2), (45, .if_icmp .ne 9, 3), (48, .iconst 2, 1), (49, .iload_n 2, 1), (50, .imul, 1), (51, .goto 9, 3), (54, .iload_n 1, 1), (55, .iconst 2, 1), (56, .isub, 1), (57, .bipush 43, 2), (59, .iadd, 1), (60, .istore 4, 2), (62, .iconst 0, 1), (63, .istore 5, 2), (65, .iload 5, 2), (67, .iload 4, 2), (69, .imul, 1), (70, .bipush 43, 2), (72, .irem, 1), (73, .iload_n 3, 1), (74, .bipush 43, 2), (76, .irem, 1), (77, .if_icmp .eq 9, 3), (80, .iinc 5 1, 3), (83, .goto (-18), 3), (86, .iload 5, 2), (88, .iload 5, 2), (90, .imul, 1), (91, .iload_n 1, 1), (92, .isub, 1), (93, .iconst 2, 1), (94, .isub, 1), (95, .bipush 86, 2), (97, .iadd, 1), (98, .bipush 43, 2), (100, .irem, 1), (101, .istore 6, 2), (103, .iload 5, 2), (105, .iload_n 1, 1), (106, .iload 6, 2), (108, .isub, 1), (109, .bipush 43, 2), (111, .iadd, 1), (112, .imul, 1), (113, .iload_n 2, 1), (114, .isub, 1), (115, .bipush 43, 2), (117, .iadd, 1), (118, .bipush 43, 2), (120, .irem, 1), (121, .istore 7, 2), (123, .bipush 64, 2), (125, .iload 6, 2), (127, .imul, 1), (128, .iload 7, 2), (130, .iadd, 1), (131, .ireturn, 1)]
set_option maxRecDepth 100000 in
theorem k_Mod_added : jDec m_Mod_added.2.1 t_Mod_added := by decide +kernel
def y_Mod_thrown : MethodName := ⟨"SharingRoomModel", "thrown", "()I"⟩
def m_Mod_thrown : jM := ("SharingRoomModel", prog_14_method_2_code, 1, (some FieldType.int), "thrown", [])
def t_Mod_thrown : List (Nat × Instr × Nat) := [(0, .aload_n 0, 1), (1, .getfield 170, 3), (4, .ireturn, 1)]
set_option maxRecDepth 100000 in
theorem k_Mod_thrown : jDec m_Mod_thrown.2.1 t_Mod_thrown := by decide +kernel
def y_Mod_field : MethodName := ⟨"SharingRoomModel", "field", "(I)V"⟩
def m_Mod_field : jM := ("SharingRoomModel", prog_14_method_11_code, 2, none, "field", [])
def t_Mod_field : List (Nat × Instr × Nat) := [(0, .aload_n 0, 1), (1, .iload_n 1, 1), (2, .ifCond .lt 8, 3), (5, .iload_n 1, 1), (6, .iconst 2, 1), (7, .if_icmp .le 7, 3), (10, .iconst 1, 1), (11, .goto 4, 3), (14, .iconst 0, 1), (15, .putfield 170, 3), (18, .aload_n 0, 1), (19, .getfield 170, 3), (22, .ifCond .le 4, 3), (25, .return_, 1), (26, .aload_n 0, 1), (27, .iload_n 1, 1), (28, .putfield 181, 3), (31, .aload_n 0, 1), (32, .iconst 0, 1), (33, .putfield 184, 3), (36, .return_, 1)]
set_option maxRecDepth 100000 in
theorem k_Mod_field : jDec m_Mod_field.2.1 t_Mod_field := by decide +kernel
def y_Mod_point : MethodName := ⟨"SharingRoomModel", "point", "(II)I"⟩
def m_Mod_point : jM := ("SharingRoomModel", prog_14_method_12_code, 4, (some FieldType.int), "point", [])
def t_Mod_point : List (Nat × Instr × Nat) := [(0, .aload_n 0, 1), (1, .iload_n 1, 1), (2, .iconst 1, 1), (3, .if_icmp .lt 25, 3), (6, .aload_n 0, 1), (7, .getfield 181, 3), (10, .iload_n 1, 1), (11, .invokestatic 187, 3), (14, .ifCond .eq 14, 3), (17, .aload_n 0, 1), (18, .getfield 181, 3), (21, .iload_n 2, 1), (22, .invokestatic 187, 3), (25, .ifCond .ne 7, 3), (28, .iconst 1, 1), (29, .goto 17, 3), (32, .aload_n 0, 1), (33, .getfield 184, 3), (36, .bipush 12, 2), (38, .if_icmp .ne 7, 3), (41, .iconst 2, 1), (42, .goto 4, 3), (45, .iconst 0, 1), (46, .putfield 170, 3), (49, .iconst 0, 1), (50, .istore_n 3, 1), (51, .iload_n 3, 1), (52, .aload_n 0, 1), (53, .getfield 184, 3), (56, .if_icmp .ge 35, 3), (59, .aload_n 0, 1), (60, .getfield 170, 3), (63, .ifCond .ne 28, 3), (66, .aload_n 0, 1), (67, .aload_n 0, 1), (68, .getfield 7, 3), (71, .iload_n 3, 1), (72, .iaload, 1), (73, .iload_n 1, 1), (74, .if_icmp .ne 7, 3), (77, .iconst 2, 1), (78, .goto 4, 3), (81, .iconst 0, 1), (82, .putfield 170, 3), (85, .iinc 3 1, 3), (88, .goto (-37), 3), (91, .aload_n 0, 1), (92, .getfield 170, 3), (95, .ifCond .le 5, 3), (98, .iconst 0, 1), (99, .ireturn, 1), (100, .aload_n 0, 1), (101, .getfield 7, 3), (104, .aload_n 0, 1), (105, .getfield 184, 3), (108, .iload_n 1, 1), (109, .iastore, 1), (110, .aload_n 0, 1), (111, .getfield 13, 3), (114, .aload_n 0, 1), (115, .getfield 184, 3), (118, .iload_n 2, 1), (119, .iastore, 1), (120, .aload_n 0, 1), (121, .dup, 1), (122, .getfield 184, 3), (125, .iconst 1, 1), (126, .iadd, 1), (127, .putfield 184, 3), (130, .aload_n 0, 1), (131, .getfield 184, 3), (134, .ireturn, 1)]
set_option maxRecDepth 100000 in
theorem k_Mod_point : jDec m_Mod_point.2.1 t_Mod_point := by decide +kernel
def y_Mod_isElement : MethodName := ⟨"SharingRoomModel", "isElement", "(II)Z"⟩
def m_Mod_isElement : jM := ("SharingRoomModel", prog_14_method_10_code, 2, (some FieldType.boolean), "isElement", [])
def t_Mod_isElement : List (Nat × Instr × Nat) := [(0, .iload_n 1, 1), (1, .ifCond .lt 15, 3), (4, .iload_n 1, 1), (5, .iload_n 0, 1), (6, .invokestatic 174, 3), (9, .if_icmp .ge 7, 3), (12, .iconst 1, 1), (13, .goto 4, 3), (16, .iconst 0, 1), (17, .ireturn, 1)]
set_option maxRecDepth 100000 in
theorem k_Mod_isElement : jDec m_Mod_isElement.2.1 t_Mod_isElement := by decide +kernel
def y_Mod_order : MethodName := ⟨"SharingRoomModel", "order", "(I)I"⟩
def m_Mod_order : jM := ("SharingRoomModel", prog_14_method_5_code, 1, (some FieldType.int), "order", [])
def t_Mod_order : List (Nat × Instr × Nat) := [(0, .iload_n 0, 1), (1, .ifCond .ne 9, 3), (4, .sipush 256, 3), (7, .goto 16, 3), (10, .iload_n 0, 1), (11, .iconst 1, 1), (12, .if_icmp .ne 9, 3), (15, .sipush 1019, 3), (18, .goto 5, 3), (21, .bipush 31, 2), (23, .ireturn, 1)]
set_option maxRecDepth 100000 in
theorem k_Mod_order : jDec m_Mod_order.2.1 t_Mod_order := by decide +kernel
def y_Mod_combine : MethodName := ⟨"SharingRoomModel", "combine", "(I)I"⟩
def m_Mod_combine : jM := ("SharingRoomModel", prog_14_method_14_code, 4, (some FieldType.int), "combine", [])
def t_Mod_combine : List (Nat × Instr × Nat) := [(0, .aload_n 0, 1), (1, .aload_n 0, 1), (2, .getfield 181, 3), (5, .iload_n 1, 1), (6, .invokestatic 187, 3), (9, .ifCond .ne 7, 3), (12, .iconst 1, 1), (13, .goto 15, 3), (16, .aload_n 0, 1), (17, .getfield 184, 3), (20, .ifCond .ne 7, 3), (23, .iconst 2, 1), (24, .goto 4, 3), (27, .iconst 0, 1), (28, .putfield 170, 3), (31, .aload_n 0, 1), (32, .getfield 170, 3), (35, .ifCond .le 5, 3), (38, .iconst 0, 1), (39, .ireturn, 1), (40, .aload_n 0, 1), (41, .invokevirtual 197, 3), (44, .iconst 0, 1), (45, .istore_n 2, 1), (46, .aload_n 0, 1), (47, .getfield 184, 3), (50, .iconst 1, 1), (51, .isub, 1), (52, .istore_n 3, 1), (53, .iload_n 3, 1), (54, .ifCond .lt 45, 3), (57, .aload_n 0, 1), (58, .getfield 181, 3), (61, .aload_n 0, 1), (62, .getfield 181, 3), (65, .iload_n 2, 1), (66, .aload_n 0, 1), (67, .getfield 181, 3), (70, .iload_n 1, 1), (71, .aload_n 0, 1), (72, .getfield 7, 3), (75, .iload_n 3, 1), (76, .iaload, 1), (77, .invokestatic 191, 3), (80, .invokestatic 177, 3), (83, .aload_n 0, 1), (84, .getfield 16, 3), (87, .iload_n 3, 1), (88, .iaload, 1), (89, .invokestatic 200, 3), (92, .istore_n 2, 1), (93, .iinc 3 (-1), 3), (96, .goto (-43), 3), (99, .iload_n 2, 1), (100, .ireturn, 1)]
set_option maxRecDepth 100000 in
theorem k_Mod_combine : jDec m_Mod_combine.2.1 t_Mod_combine := by decide +kernel
def y_Mod_divide : MethodName := ⟨"SharingRoomModel", "divide", "()V"⟩
def m_Mod_divide : jM := ("SharingRoomModel", prog_14_method_13_code, 3, none, "divide", [])
def t_Mod_divide : List (Nat × Instr × Nat) := [(0, .iconst 0, 1), (1, .istore_n 1, 1), (2, .iload_n 1, 1), (3, .aload_n 0, 1), (4, .getfield 184, 3), (7, .if_icmp .ge 21, 3), (10, .aload_n 0, 1), (11, .getfield 16, 3), (14, .iload_n 1, 1), (15, .aload_n 0, 1), (16, .getfield 13, 3), (19, .iload_n 1, 1), (20, .iaload, 1), (21, .iastore, 1), (22, .iinc 1 1, 3), (25, .goto (-23), 3), (28, .iconst 1, 1), (29, .istore_n 1, 1), (30, .iload_n 1, 1), (31, .aload_n 0, 1), (32, .getfield 184, 3), (35, .if_icmp .ge 82, 3), (38, .aload_n 0, 1), (39, .getfield 184, 3), (42, .iconst 1, 1), (43, .isub, 1), (44, .istore_n 2, 1), (45, .iload_n 2, 1), (46, .iload_n 1, 1), (47, .if_icmp .lt 64, 3), (50, .aload_n 0, 1), (51, .getfield 16, 3), (54, .iload_n 2, 1), (55, .aload_n 0, 1), (56, .getfield 181, 3), (59, .aload_n 0, 1), (60, .getfield 181, 3), (63, .aload_n 0, 1), (64, .getfield 16, 3), (67, .iload_n 2, 1), (68, .iaload, 1), (69, .aload_n 0, 1), (70, .getfield 16, 3), (73, .iload_n 2, 1), (74, .iconst 1, 1), (75, .isub, 1), (76, .iaload, 1), (77, .invokestatic 191, 3), (80, .aload_n 0, 1), (81, .getfield 181, 3), (84, .aload_n 0, 1), (85, .getfield 7, 3), (88, .iload_n 2, 1), (89, .iaload, 1), (90, .aload_n 0, 1), (91, .getfield 7, 3), (94, .iload_n 2, 1), (95, .iload_n 1, 1), (96, .isub, 1), (97, .iaload, 1), (98, .invokestatic 191, 3), (101, .invokestatic 194, 3), (104, .iastore, 1), (105, .iinc 2 (-1), 3), (108, .goto (-63), 3), (111, .iinc 1 1, 3), (114, .goto (-84), 3), (117, .return_, 1)]
set_option maxRecDepth 100000 in
theorem k_Mod_divide : jDec m_Mod_divide.2.1 t_Mod_divide := by decide +kernel
def y_Mod_less : MethodName := ⟨"SharingRoomModel", "less", "(III)I"⟩
def m_Mod_less : jM := ("SharingRoomModel", prog_14_method_6_code, 3, (some FieldType.int), "less", [])
def t_Mod_less : List (Nat × Instr × Nat) := [(0, .iload_n 0, 1), (1, .ifCond .ne 9, 3), (4, .iload_n 1, 1), (5, .iload_n 2, 1), (6, .ixor, 1), (7, .goto 16, 3), (10, .iload_n 1, 1), (11, .iload_n 2, 1), (12, .isub, 1), (13, .iload_n 0, 1), (14, .invokestatic 174, 3), (17, .iadd, 1), (18, .iload_n 0, 1), (19, .invokestatic 174, 3), (22, .irem, 1), (23, .ireturn, 1)]
set_option maxRecDepth 100000 in
theorem k_Mod_less : jDec m_Mod_less.2.1 t_Mod_less := by decide +kernel
def y_Mod_over : MethodName := ⟨"SharingRoomModel", "over", "(III)I"⟩
def m_Mod_over : jM := ("SharingRoomModel", prog_14_method_9_code, 4, (some FieldType.int), "over", [])
def t_Mod_over : List (Nat × Instr × Nat) := [(0, .iconst 0, 1), (1, .istore_n 3, 1), (2, .iload_n 0, 1), (3, .iload_n 3, 1), (4, .iload_n 2, 1), (5, .invokestatic 177, 3), (8, .iload_n 1, 1), (9, .if_icmp .eq 9, 3), (12, .iinc 3 1, 3), (15, .goto (-13), 3), (18, .iload_n 3, 1), (19, .ireturn, 1)]
set_option maxRecDepth 100000 in
theorem k_Mod_over : jDec m_Mod_over.2.1 t_Mod_over := by decide +kernel
def y_Mod_times : MethodName := ⟨"SharingRoomModel", "times", "(III)I"⟩
def m_Mod_times : jM := ("SharingRoomModel", prog_14_method_8_code, 5, (some FieldType.int), "times", [])
def t_Mod_times : List (Nat × Instr × Nat) := [(0, .iload_n 0, 1), (1, .ifCond .le 12, 3), (4, .iload_n 1, 1), (5, .iload_n 2, 1), (6, .imul, 1), (7, .iload_n 0, 1), (8, .invokestatic 174, 3), (11, .irem, 1), (12, .ireturn, 1), (13, .iconst 0, 1), (14, .istore_n 3, 1), (15, .bipush 7, 2), (17, .istore 4, 2), (19, .iload 4, 2), (21, .ifCond .lt 49, 3), (24, .iload_n 3, 1), (25, .sipush 128, 3), (28, .iand, 1), (29, .ifCond .eq 13, 3), (32, .iload_n 3, 1), (33, .iconst 1, 1), (34, .ishl, 1), (35, .sipush 283, 3), (38, .ixor, 1), (39, .goto 6, 3), (42, .iload_n 3, 1), (43, .iconst 1, 1), (44, .ishl, 1), (45, .istore_n 3, 1), (46, .iload_n 2, 1), (47, .iload 4, 2), (49, .ishr, 1), (50, .iconst 1, 1), (51, .iand, 1), (52, .iconst 1, 1), (53, .if_icmp .ne 9, 3), (56, .iload_n 3, 1), (57, .iload_n 1, 1), (58, .ixor, 1), (59, .goto 4, 3), (62, .iload_n 3, 1), (63, .istore_n 3, 1), (64, .iinc 4 (-1), 3), (67, .goto (-48), 3), (70, .iload_n 3, 1), (71, .ireturn, 1)]
set_option maxRecDepth 100000 in
theorem k_Mod_times : jDec m_Mod_times.2.1 t_Mod_times := by decide +kernel
def y_Mod_plus : MethodName := ⟨"SharingRoomModel", "plus", "(III)I"⟩
def m_Mod_plus : jM := ("SharingRoomModel", prog_14_method_7_code, 3, (some FieldType.int), "plus", [])
def t_Mod_plus : List (Nat × Instr × Nat) := [(0, .iload_n 0, 1), (1, .ifCond .ne 9, 3), (4, .iload_n 1, 1), (5, .iload_n 2, 1), (6, .ixor, 1), (7, .goto 11, 3), (10, .iload_n 1, 1), (11, .iload_n 2, 1), (12, .iadd, 1), (13, .iload_n 0, 1), (14, .invokestatic 174, 3), (17, .irem, 1), (18, .ireturn, 1)]
set_option maxRecDepth 100000 in
theorem k_Mod_plus : jDec m_Mod_plus.2.1 t_Mod_plus := by decide +kernel
def y_Mod_degree : MethodName := ⟨"SharingRoomModel", "degree", "()I"⟩
def m_Mod_degree : jM := ("SharingRoomModel", prog_14_method_15_code, 2, (some FieldType.int), "degree", [])
def t_Mod_degree : List (Nat × Instr × Nat) := [(0, .aload_n 0, 1), (1, .iconst 0, 1), (2, .putfield 170, 3), (5, .aload_n 0, 1), (6, .invokevirtual 197, 3), (9, .aload_n 0, 1), (10, .getfield 184, 3), (13, .istore_n 1, 1), (14, .iload_n 1, 1), (15, .ifCond .le 20, 3), (18, .aload_n 0, 1), (19, .getfield 16, 3), (22, .iload_n 1, 1), (23, .iconst 1, 1), (24, .isub, 1), (25, .iaload, 1), (26, .ifCond .ne 9, 3), (29, .iinc 1 (-1), 3), (32, .goto (-18), 3), (35, .iload_n 1, 1), (36, .ireturn, 1)]
set_option maxRecDepth 100000 in
theorem k_Mod_degree : jDec m_Mod_degree.2.1 t_Mod_degree := by decide +kernel
def y_Mod_begin : MethodName := ⟨"SharingRoomModel", "begin", "(III)V"⟩
def m_Mod_begin : jM := ("SharingRoomModel", prog_14_method_17_code, 5, none, "begin", [])
def t_Mod_begin : List (Nat × Instr × Nat) := [(0, .aload_n 0, 1), (1, .iload_n 1, 1), (2, .ifCond .lt 29, 3), (5, .iload_n 1, 1), (6, .iconst 1, 1), (7, .if_icmp .gt 24, 3), (10, .iload_n 2, 1), (11, .iconst 1, 1), (12, .if_icmp .lt 19, 3), (15, .iload_n 2, 1), (16, .bipush 7, 2), (18, .if_icmp .gt 13, 3), (21, .iload_n 3, 1), (22, .iconst 1, 1), (23, .if_icmp .lt 8, 3), (26, .iload_n 3, 1), (27, .iload_n 2, 1), (28, .if_icmp .le 7, 3), (31, .iconst 1, 1), (32, .goto 4, 3), (35, .iconst 0, 1), (36, .putfield 170, 3), (39, .aload_n 0, 1), (40, .getfield 170, 3), (43, .ifCond .le 4, 3), (46, .return_, 1), (47, .aload_n 0, 1), (48, .iload_n 1, 1), (49, .putfield 210, 3), (52, .aload_n 0, 1), (53, .aload_n 0, 1), (54, .getfield 210, 3), (57, .ifCond .ne 9, 3), (60, .sipush 1019, 3), (63, .goto 5, 3), (66, .bipush 31, 2), (68, .putfield 213, 3), (71, .aload_n 0, 1), (72, .iload_n 2, 1), (73, .putfield 207, 3), (76, .aload_n 0, 1), (77, .iload_n 3, 1), (78, .putfield 216, 3), (81, .aload_n 0, 1), (82, .aload_n 0, 1), (83, .getfield 207, 3), (86, .putfield 219, 3), (89, .aload_n 0, 1), (90, .aload_n 0, 1), (91, .getfield 216, 3), (94, .putfield 222, 3), (97, .aload_n 0, 1), (98, .iconst 1, 1), (99, .putfield 203, 3), (102, .aload_n 0, 1), (103, .iconst 0, 1), (104, .putfield 225, 3), (107, .aload_n 0, 1), (108, .iconst 0, 1), (109, .putfield 228, 3), (112, .aload_n 0, 1), (113, .iconst 0, 1), (114, .putfield 231, 3), (117, .aload_n 0, 1), (118, .iconst 0, 1), (119, .putfield 234, 3), (122, .aload_n 0, 1), (123, .iconst 0, 1), (124, .putfield 237, 3), (127, .aload_n 0, 1), (128, .iconst 0, 1), (129, .putfield 240, 3), (132, .aload_n 0, 1), (133, .iconst 0, 1), (134, .putfield 243, 3), (137, .aload_n 0, 1), (138, .iconst 0, 1), (139, .putfield 246, 3), (142, .aload_n 0, 1), (143, .iconst 0, 1), (144, .putfield 249, 3), (147, .iconst 0, 1), (148, .istore 4, 2), (150, .iload 4, 2), (152, .bipush 7, 2), (154, .if_icmp .ge 25, 3), (157, .aload_n 0, 1), (158, .getfield 40, 3), (161, .iload 4, 2), (163, .iconst 0, 1), (164, .iastore, 1), (165, .aload_n 0, 1), (166, .getfield 43, 3), (169, .iload 4, 2), (171, .iconst 0, 1), (172, .iastore, 1), (173, .iinc 4 1, 3), (176, .goto (-26), 3), (179, .aload_n 0, 1), (180, .invokevirtual 252, 3), (183, .return_, 1)]
set_option maxRecDepth 100000 in
theorem k_Mod_begin : jDec m_Mod_begin.2.1 t_Mod_begin := by decide +kernel
def y_Mod_forget : MethodName := ⟨"SharingRoomModel", "forget", "()V"⟩
def m_Mod_forget : jM := ("SharingRoomModel", prog_14_method_18_code, 2, none, "forget", [])
def t_Mod_forget : List (Nat × Instr × Nat) := [(0, .iconst 0, 1), (1, .istore_n 1, 1), (2, .iload_n 1, 1), (3, .bipush 49, 2), (5, .if_icmp .ge 30, 3), (8, .aload_n 0, 1), (9, .getfield 28, 3), (12, .iload_n 1, 1), (13, .iconst 0, 1), (14, .iastore, 1), (15, .aload_n 0, 1), (16, .getfield 31, 3), (19, .iload_n 1, 1), (20, .iconst 0, 1), (21, .iastore, 1), (22, .aload_n 0, 1), (23, .getfield 34, 3), (26, .iload_n 1, 1), (27, .iconst 0, 1), (28, .iastore, 1), (29, .iinc 1 1, 3), (32, .goto (-30), 3), (35, .iconst 0, 1), (36, .istore_n 1, 1), (37, .iload_n 1, 1), (38, .bipush 7, 2), (40, .if_icmp .ge 17, 3), (43, .aload_n 0, 1), (44, .getfield 37, 3), (47, .iload_n 1, 1), (48, .bipush 8, 2), (50, .iastore, 1), (51, .iinc 1 1, 3), (54, .goto (-17), 3), (57, .return_, 1)]
set_option maxRecDepth 100000 in
theorem k_Mod_forget : jDec m_Mod_forget.2.1 t_Mod_forget := by decide +kernel
def y_Mod_give : MethodName := ⟨"SharingRoomModel", "give", "(IIII)V"⟩
def m_Mod_give : jM := ("SharingRoomModel", prog_14_method_19_code, 6, none, "give", [])
def t_Mod_give : List (Nat × Instr × Nat) := [(0, .aload_n 0, 1), (1, .aload_n 0, 1), (2, .getfield 203, 3), (5, .ifCond .eq 24, 3), (8, .aload_n 0, 1), (9, .getfield 231, 3), (12, .ifCond .le 21, 3), (15, .aload_n 0, 1), (16, .getfield 225, 3), (19, .ifCond .ne 14, 3), (22, .aload_n 0, 1), (23, .getfield 228, 3), (26, .ifCond .ne 7, 3), (29, .iconst 1, 1), (30, .goto 37, 3), (33, .aload_n 0, 1), (34, .iload_n 1, 1), (35, .invokevirtual 255, 3), (38, .ifCond .eq 24, 3), (41, .iload_n 2, 1), (42, .ifCond .lt 20, 3), (45, .iload_n 2, 1), (46, .aload_n 0, 1), (47, .getfield 216, 3), (50, .if_icmp .ge 12, 3), (53, .iload_n 3, 1), (54, .ifCond .lt 8, 3), (57, .iload_n 3, 1), (58, .iconst 1, 1), (59, .if_icmp .le 7, 3), (62, .iconst 2, 1), (63, .goto 4, 3), (66, .iconst 0, 1), (67, .putfield 170, 3), (70, .aload_n 0, 1), (71, .getfield 170, 3), (74, .ifCond .le 4, 3), (77, .return_, 1), (78, .iload 4, 2), (80, .aload_n 0, 1), (81, .getfield 213, 3), (84, .irem, 1), (85, .istore 5, 2), (87, .iload 5, 2), (89, .ifCond .ge 13, 3), (92, .iload 5, 2), (94, .aload_n 0, 1), (95, .getfield 213, 3), (98, .iadd, 1), (99, .goto 5, 3), (102, .iload 5, 2), (104, .istore 5, 2), (106, .iload_n 3, 1), (107, .ifCond .ne 22, 3), (110, .aload_n 0, 1), (111, .getfield 28, 3), (114, .bipush 7, 2), (116, .iload_n 1, 1), (117, .imul, 1), (118, .bipush 7, 2), (120, .isub, 1), (121, .iload_n 2, 1), (122, .iadd, 1), (123, .iload 5, 2), (125, .iastore, 1), (126, .goto 19, 3), (129, .aload_n 0, 1), (130, .getfield 31, 3), (133, .bipush 7, 2), (135, .iload_n 1, 1), (136, .imul, 1), (137, .bipush 7, 2), (139, .isub, 1), (140, .iload_n 2, 1), (141, .iadd, 1), (142, .iload 5, 2), (144, .iastore, 1), (145, .return_, 1)]
set_option maxRecDepth 100000 in
theorem k_Mod_give : jDec m_Mod_give.2.1 t_Mod_give := by decide +kernel
def y_Mod_isParty : MethodName := ⟨"SharingRoomModel", "isParty", "(I)Z"⟩
def m_Mod_isParty : jM := ("SharingRoomModel", prog_14_method_16_code, 2, (some FieldType.boolean), "isParty", [])
def t_Mod_isParty : List (Nat × Instr × Nat) := [(0, .aload_n 0, 1), (1, .getfield 203, 3), (4, .ifCond .eq 20, 3), (7, .iload_n 1, 1), (8, .iconst 1, 1), (9, .if_icmp .lt 15, 3), (12, .iload_n 1, 1), (13, .aload_n 0, 1), (14, .getfield 207, 3), (17, .if_icmp .gt 7, 3), (20, .iconst 1, 1), (21, .goto 4, 3), (24, .iconst 0, 1), (25, .ireturn, 1)]
set_option maxRecDepth 100000 in
theorem k_Mod_isParty : jDec m_Mod_isParty.2.1 t_Mod_isParty := by decide +kernel
def y_Mod_fault : MethodName := ⟨"SharingRoomModel", "fault", "(III)V"⟩
def m_Mod_fault : jM := ("SharingRoomModel", prog_14_method_20_code, 5, none, "fault", [])
def t_Mod_fault : List (Nat × Instr × Nat) := [(0, .iload_n 2, 1), (1, .iconst 1, 1), (2, .if_icmp .eq 8, 3), (5, .iload_n 2, 1), (6, .iconst 2, 1), (7, .if_icmp .ne 7, 3), (10, .iconst 1, 1), (11, .goto 4, 3), (14, .iconst 0, 1), (15, .istore 4, 2), (17, .aload_n 0, 1), (18, .aload_n 0, 1), (19, .getfield 203, 3), (22, .ifCond .eq 10, 3), (25, .aload_n 0, 1), (26, .getfield 231, 3), (29, .ifCond .le 7, 3), (32, .iconst 1, 1), (33, .goto 44, 3), (36, .iload_n 2, 1), (37, .ifCond .lt 35, 3), (40, .iload_n 2, 1), (41, .bipush 6, 2), (43, .if_icmp .gt 29, 3), (46, .aload_n 0, 1), (47, .iload_n 1, 1), (48, .invokevirtual 255, 3), (51, .ifCond .eq 21, 3), (54, .iload 4, 2), (56, .ifCond .eq 20, 3), (59, .aload_n 0, 1), (60, .iload_n 3, 1), (61, .invokevirtual 255, 3), (64, .ifCond .eq 8, 3), (67, .iload_n 3, 1), (68, .iload_n 1, 1), (69, .if_icmp .ne 7, 3), (72, .iconst 2, 1), (73, .goto 4, 3), (76, .iconst 0, 1), (77, .putfield 170, 3), (80, .aload_n 0, 1), (81, .getfield 170, 3), (84, .ifCond .ne 26, 3), (87, .aload_n 0, 1), (88, .getfield 34, 3), (91, .bipush 7, 2), (93, .iload_n 2, 1), (94, .imul, 1), (95, .iload_n 1, 1), (96, .iadd, 1), (97, .iconst 1, 1), (98, .isub, 1), (99, .iload 4, 2), (101, .ifCond .eq 7, 3), (104, .iload_n 3, 1), (105, .goto 4, 3), (108, .iconst 1, 1), (109, .iastore, 1), (110, .return_, 1)]
set_option maxRecDepth 100000 in
theorem k_Mod_fault : jDec m_Mod_fault.2.1 t_Mod_fault := by decide +kernel
def y_Mod_crash : MethodName := ⟨"SharingRoomModel", "crash", "(II)V"⟩
def m_Mod_crash : jM := ("SharingRoomModel", prog_14_method_21_code, 3, none, "crash", [])
def t_Mod_crash : List (Nat × Instr × Nat) := [(0, .aload_n 0, 1), (1, .aload_n 0, 1), (2, .getfield 203, 3), (5, .ifCond .eq 10, 3), (8, .aload_n 0, 1), (9, .getfield 231, 3), (12, .ifCond .le 7, 3), (15, .iconst 1, 1), (16, .goto 27, 3), (19, .aload_n 0, 1), (20, .iload_n 1, 1), (21, .invokevirtual 255, 3), (24, .ifCond .eq 14, 3), (27, .iload_n 2, 1), (28, .iconst 1, 1), (29, .if_icmp .lt 9, 3), (32, .iload_n 2, 1), (33, .bipush 8, 2), (35, .if_icmp .le 7, 3), (38, .iconst 2, 1), (39, .goto 4, 3), (42, .iconst 0, 1), (43, .putfield 170, 3), (46, .aload_n 0, 1), (47, .getfield 170, 3), (50, .ifCond .ne 12, 3), (53, .aload_n 0, 1), (54, .getfield 37, 3), (57, .iload_n 1, 1), (58, .iconst 1, 1), (59, .isub, 1), (60, .iload_n 2, 1), (61, .iastore, 1), (62, .return_, 1)]
set_option maxRecDepth 100000 in
theorem k_Mod_crash : jDec m_Mod_crash.2.1 t_Mod_crash := by decide +kernel
def y_Mod_next : MethodName := ⟨"SharingRoomModel", "next", "()I"⟩
def m_Mod_next : jM := ("SharingRoomModel", prog_14_method_35_code, 1, (some FieldType.int), "next", [])
def t_Mod_next : List (Nat × Instr × Nat) := [(0, .aload_n 0, 1), (1, .aload_n 0, 1), (2, .getfield 203, 3), (5, .ifCond .eq 17, 3), (8, .aload_n 0, 1), (9, .getfield 225, 3), (12, .ifCond .ne 10, 3), (15, .aload_n 0, 1), (16, .getfield 228, 3), (19, .ifCond .eq 7, 3), (22, .iconst 1, 1), (23, .goto 4, 3), (26, .iconst 0, 1), (27, .putfield 170, 3), (30, .aload_n 0, 1), (31, .getfield 170, 3), (34, .ifCond .le 5, 3), (37, .iconst 0, 1), (38, .ireturn, 1), (39, .aload_n 0, 1), (40, .dup, 1), (41, .getfield 231, 3), (44, .iconst 1, 1), (45, .iadd, 1), (46, .putfield 231, 3), (49, .aload_n 0, 1), (50, .getfield 231, 3), (53, .iconst 1, 1), (54, .if_icmp .ne 10, 3), (57, .aload_n 0, 1), (58, .invokevirtual 273, 3), (61, .goto 83, 3), (64, .aload_n 0, 1), (65, .getfield 231, 3), (68, .iconst 2, 1), (69, .if_icmp .ne 10, 3), (72, .aload_n 0, 1), (73, .invokevirtual 276, 3), (76, .goto 68, 3), (79, .aload_n 0, 1), (80, .getfield 231, 3), (83, .iconst 3, 1), (84, .if_icmp .ne 10, 3), (87, .aload_n 0, 1), (88, .invokevirtual 279, 3), (91, .goto 53, 3), (94, .aload_n 0, 1), (95, .getfield 231, 3), (98, .iconst 4, 1), (99, .if_icmp .ne 10, 3), (102, .aload_n 0, 1), (103, .invokevirtual 282, 3), (106, .goto 38, 3), (109, .aload_n 0, 1), (110, .getfield 231, 3), (113, .iconst 5, 1), (114, .if_icmp .ne 10, 3), (117, .aload_n 0, 1), (118, .invokevirtual 285, 3), (121, .goto 23, 3), (124, .aload_n 0, 1), (125, .getfield 231, 3), (128, .bipush 6, 2), (130, .if_icmp .ne 10, 3), (133, .aload_n 0, 1), (134, .invokevirtual 288, 3), (137, .goto 7, 3), (140, .aload_n 0, 1), (141, .invokevirtual 291, 3), (144, .aload_n 0, 1), (145, .getfield 231, 3), (148, .ireturn, 1)]
set_option maxRecDepth 100000 in
theorem k_Mod_next : jDec m_Mod_next.2.1 t_Mod_next := by decide +kernel
def y_Mod_deal : MethodName := ⟨"SharingRoomModel", "deal", "()V"⟩
def m_Mod_deal : jM := ("SharingRoomModel", prog_14_method_36_code, 4, none, "deal", [])
def t_Mod_deal : List (Nat × Instr × Nat) := [(0, .iconst 1, 1), (1, .istore_n 1, 1), (2, .iload_n 1, 1), (3, .aload_n 0, 1), (4, .getfield 207, 3), (7, .if_icmp .gt 204, 3), (10, .aload_n 0, 1), (11, .iload_n 1, 1), (12, .iconst 1, 1), (13, .invokevirtual 294, 3), (16, .ifCond .eq 189, 3), (19, .aload_n 0, 1), (20, .iload_n 1, 1), (21, .iconst 0, 1), (22, .invokevirtual 297, 3), (25, .ifCond .eq 6, 3), (28, .goto 177, 3), (31, .aload_n 0, 1), (32, .dup, 1), (33, .getfield 237, 3), (36, .iconst 1, 1), (37, .iload_n 1, 1), (38, .iconst 1, 1), (39, .isub, 1), (40, .ishl, 1), (41, .ior, 1), (42, .putfield 237, 3), (45, .aload_n 0, 1), (46, .iconst 1, 1), (47, .invokevirtual 266, 3), (50, .aload_n 0, 1), (51, .iload_n 1, 1), (52, .invokevirtual 266, 3), (55, .iconst 0, 1), (56, .istore_n 2, 1), (57, .iload_n 2, 1), (58, .aload_n 0, 1), (59, .getfield 216, 3), (62, .if_icmp .ge 67, 3), (65, .bipush 7, 2), (67, .iload_n 1, 1), (68, .imul, 1), (69, .bipush 7, 2), (71, .isub, 1), (72, .iload_n 2, 1), (73, .iadd, 1), (74, .istore_n 3, 1), (75, .aload_n 0, 1), (76, .getfield 58, 3), (79, .iload_n 3, 1), (80, .aload_n 0, 1), (81, .getfield 28, 3), (84, .iload_n 3, 1), (85, .iaload, 1), (86, .aload_n 0, 1), (87, .getfield 25, 3), (90, .aload_n 0, 1), (91, .getfield 210, 3), (94, .iaload, 1), (95, .aload_n 0, 1), (96, .getfield 31, 3), (99, .iload_n 3, 1), (100, .iaload, 1), (101, .imul, 1), (102, .iadd, 1), (103, .aload_n 0, 1), (104, .getfield 213, 3), (107, .irem, 1), (108, .iastore, 1), (109, .aload_n 0, 1), (110, .aload_n 0, 1), (111, .aload_n 0, 1), (112, .getfield 58, 3), (115, .iload_n 3, 1), (116, .iaload, 1), (117, .invokevirtual 300, 3), (120, .invokevirtual 270, 3), (123, .iinc 2 1, 3), (126, .goto (-69), 3), (129, .iconst 1, 1), (130, .istore_n 2, 1), (131, .iload_n 2, 1), (132, .aload_n 0, 1), (133, .getfield 207, 3), (136, .if_icmp .gt 69, 3), (139, .aload_n 0, 1), (140, .getfield 46, 3), (143, .aload_n 0, 1), (144, .iload_n 1, 1), (145, .iload_n 2, 1), (146, .invokevirtual 303, 3), (149, .aload_n 0, 1), (150, .iload_n 1, 1), (151, .iload_n 2, 1), (152, .invokevirtual 306, 3), (155, .aload_n 0, 1), (156, .getfield 34, 3), (159, .bipush 7, 2), (161, .iload_n 1, 1), (162, .iadd, 1), (163, .iconst 1, 1), (164, .isub, 1), (165, .iaload, 1), (166, .iload_n 2, 1), (167, .if_icmp .ne 7, 3), (170, .iconst 1, 1), (171, .goto 4, 3), (174, .iconst 0, 1), (175, .iadd, 1), (176, .aload_n 0, 1), (177, .getfield 213, 3), (180, .irem, 1), (181, .iastore, 1), (182, .aload_n 0, 1), (183, .getfield 49, 3), (186, .aload_n 0, 1), (187, .iload_n 1, 1), (188, .iload_n 2, 1), (189, .invokevirtual 303, 3), (192, .aload_n 0, 1), (193, .iload_n 1, 1), (194, .iload_n 2, 1), (195, .invokevirtual 309, 3), (198, .iastore, 1), (199, .iinc 2 1, 3), (202, .goto (-71), 3), (205, .iinc 1 1, 3), (208, .goto (-206), 3), (211, .return_, 1)]
set_option maxRecDepth 100000 in
theorem k_Mod_deal : jDec m_Mod_deal.2.1 t_Mod_deal := by decide +kernel
def y_Mod_works : MethodName := ⟨"SharingRoomModel", "works", "(II)Z"⟩
def m_Mod_works : jM := ("SharingRoomModel", prog_14_method_22_code, 3, (some FieldType.boolean), "works", [])
def t_Mod_works : List (Nat × Instr × Nat) := [(0, .aload_n 0, 1), (1, .getfield 37, 3), (4, .iload_n 1, 1), (5, .iconst 1, 1), (6, .isub, 1), (7, .iaload, 1), (8, .bipush 8, 2), (10, .if_icmp .eq 15, 3), (13, .iload_n 2, 1), (14, .aload_n 0, 1), (15, .getfield 37, 3), (18, .iload_n 1, 1), (19, .iconst 1, 1), (20, .isub, 1), (21, .iaload, 1), (22, .if_icmp .ge 7, 3), (25, .iconst 1, 1), (26, .goto 4, 3), (29, .iconst 0, 1), (30, .ireturn, 1)]
set_option maxRecDepth 100000 in
theorem k_Mod_works : jDec m_Mod_works.2.1 t_Mod_works := by decide +kernel
def y_Mod_is : MethodName := ⟨"SharingRoomModel", "is", "(II)Z"⟩
def m_Mod_is : jM := ("SharingRoomModel", prog_14_method_23_code, 3, (some FieldType.boolean), "is", [])
def t_Mod_is : List (Nat × Instr × Nat) := [(0, .aload_n 0, 1), (1, .getfield 34, 3), (4, .bipush 7, 2), (6, .iload_n 2, 1), (7, .imul, 1), (8, .iload_n 1, 1), (9, .iadd, 1), (10, .iconst 1, 1), (11, .isub, 1), (12, .iaload, 1), (13, .ifCond .le 7, 3), (16, .iconst 1, 1), (17, .goto 4, 3), (20, .iconst 0, 1), (21, .ireturn, 1)]
set_option maxRecDepth 100000 in
theorem k_Mod_is : jDec m_Mod_is.2.1 t_Mod_is := by decide +kernel
def y_Mod_show : MethodName := ⟨"SharingRoomModel", "show", "(I)V"⟩
def m_Mod_show : jM := ("SharingRoomModel", prog_14_method_32_code, 2, none, "show", [])
def t_Mod_show : List (Nat × Instr × Nat) := [(0, .aload_n 0, 1), (1, .getfield 73, 3), (4, .aload_n 0, 1), (5, .getfield 234, 3), (8, .iload_n 1, 1), (9, .iastore, 1), (10, .aload_n 0, 1), (11, .dup, 1), (12, .getfield 234, 3), (15, .iconst 1, 1), (16, .iadd, 1), (17, .putfield 234, 3), (20, .return_, 1)]
set_option maxRecDepth 100000 in
theorem k_Mod_show : jDec m_Mod_show.2.1 t_Mod_show := by decide +kernel
def y_Mod_element : MethodName := ⟨"SharingRoomModel", "element", "(I)I"⟩
def m_Mod_element : jM := ("SharingRoomModel", prog_14_method_28_code, 2, (some FieldType.int), "element", [])
def t_Mod_element : List (Nat × Instr × Nat) := [(0, .aload_n 0, 1), (1, .getfield 210, 3), (4, .ifCond .ne 12, 3), (7, .aload_n 0, 1), (8, .getfield 19, 3), (11, .iload_n 1, 1), (12, .iaload, 1), (13, .goto 9, 3), (16, .aload_n 0, 1), (17, .getfield 22, 3), (20, .iload_n 1, 1), (21, .iaload, 1), (22, .ireturn, 1)]
set_option maxRecDepth 100000 in
theorem k_Mod_element : jDec m_Mod_element.2.1 t_Mod_element := by decide +kernel
def y_Mod_showTwo : MethodName := ⟨"SharingRoomModel", "showTwo", "(I)V"⟩
def m_Mod_showTwo : jM := ("SharingRoomModel", prog_14_method_33_code, 2, none, "showTwo", [])
def t_Mod_showTwo : List (Nat × Instr × Nat) := [(0, .aload_n 0, 1), (1, .iload_n 1, 1), (2, .bipush 8, 2), (4, .ishr, 1), (5, .invokevirtual 266, 3), (8, .aload_n 0, 1), (9, .iload_n 1, 1), (10, .sipush 255, 3), (13, .iand, 1), (14, .invokevirtual 266, 3), (17, .return_, 1)]
set_option maxRecDepth 100000 in
theorem k_Mod_showTwo : jDec m_Mod_showTwo.2.1 t_Mod_showTwo := by decide +kernel
def y_Mod_at : MethodName := ⟨"SharingRoomModel", "at", "(II)I"⟩
def m_Mod_at : jM := ("SharingRoomModel", prog_14_method_29_code, 3, (some FieldType.int), "at", [])
def t_Mod_at : List (Nat × Instr × Nat) := [(0, .bipush 7, 2), (2, .iload_n 1, 1), (3, .imul, 1), (4, .bipush 7, 2), (6, .isub, 1), (7, .iload_n 2, 1), (8, .iadd, 1), (9, .iconst 1, 1), (10, .isub, 1), (11, .ireturn, 1)]
set_option maxRecDepth 100000 in
theorem k_Mod_at : jDec m_Mod_at.2.1 t_Mod_at := by decide +kernel
def y_Mod_f : MethodName := ⟨"SharingRoomModel", "f", "(II)I"⟩
def m_Mod_f : jM := ("SharingRoomModel", prog_14_method_25_code, 5, (some FieldType.int), "f", [])
def t_Mod_f : List (Nat × Instr × Nat) := [(0, .iconst 0, 1), (1, .istore_n 3, 1), (2, .iconst 0, 1), (3, .istore 4, 2), (5, .iload 4, 2), (7, .aload_n 0, 1), (8, .getfield 216, 3), (11, .if_icmp .ge 40, 3), (14, .iload_n 3, 1), (15, .aload_n 0, 1), (16, .getfield 28, 3), (19, .bipush 7, 2), (21, .iload_n 1, 1), (22, .imul, 1), (23, .bipush 7, 2), (25, .isub, 1), (26, .iload 4, 2), (28, .iadd, 1), (29, .iaload, 1), (30, .aload_n 0, 1), (31, .iload_n 2, 1), (32, .iload 4, 2), (34, .invokevirtual 259, 3), (37, .imul, 1), (38, .iadd, 1), (39, .aload_n 0, 1), (40, .getfield 213, 3), (43, .irem, 1), (44, .istore_n 3, 1), (45, .iinc 4 1, 3), (48, .goto (-43), 3), (51, .iload_n 3, 1), (52, .ireturn, 1)]
set_option maxRecDepth 100000 in
theorem k_Mod_f : jDec m_Mod_f.2.1 t_Mod_f := by decide +kernel
def y_Mod_power : MethodName := ⟨"SharingRoomModel", "power", "(II)I"⟩
def m_Mod_power : jM := ("SharingRoomModel", prog_14_method_24_code, 5, (some FieldType.int), "power", [])
def t_Mod_power : List (Nat × Instr × Nat) := [(0, .iconst 1, 1), (1, .istore_n 3, 1), (2, .iconst 0, 1), (3, .istore 4, 2), (5, .iload 4, 2), (7, .iload_n 2, 1), (8, .if_icmp .ge 18, 3), (11, .iload_n 3, 1), (12, .iload_n 1, 1), (13, .imul, 1), (14, .aload_n 0, 1), (15, .getfield 213, 3), (18, .irem, 1), (19, .istore_n 3, 1), (20, .iinc 4 1, 3), (23, .goto (-18), 3), (26, .iload_n 3, 1), (27, .ireturn, 1)]
set_option maxRecDepth 100000 in
theorem k_Mod_power : jDec m_Mod_power.2.1 t_Mod_power := by decide +kernel
def y_Mod_blind : MethodName := ⟨"SharingRoomModel", "blind", "(II)I"⟩
def m_Mod_blind : jM := ("SharingRoomModel", prog_14_method_26_code, 5, (some FieldType.int), "blind", [])
def t_Mod_blind : List (Nat × Instr × Nat) := [(0, .iconst 0, 1), (1, .istore_n 3, 1), (2, .iconst 0, 1), (3, .istore 4, 2), (5, .iload 4, 2), (7, .aload_n 0, 1), (8, .getfield 216, 3), (11, .if_icmp .ge 40, 3), (14, .iload_n 3, 1), (15, .aload_n 0, 1), (16, .getfield 31, 3), (19, .bipush 7, 2), (21, .iload_n 1, 1), (22, .imul, 1), (23, .bipush 7, 2), (25, .isub, 1), (26, .iload 4, 2), (28, .iadd, 1), (29, .iaload, 1), (30, .aload_n 0, 1), (31, .iload_n 2, 1), (32, .iload 4, 2), (34, .invokevirtual 259, 3), (37, .imul, 1), (38, .iadd, 1), (39, .aload_n 0, 1), (40, .getfield 213, 3), (43, .irem, 1), (44, .istore_n 3, 1), (45, .iinc 4 1, 3), (48, .goto (-43), 3), (51, .iload_n 3, 1), (52, .ireturn, 1)]
set_option maxRecDepth 100000 in
theorem k_Mod_blind : jDec m_Mod_blind.2.1 t_Mod_blind := by decide +kernel
def y_Mod_complain : MethodName := ⟨"SharingRoomModel", "complain", "()V"⟩
def m_Mod_complain : jM := ("SharingRoomModel", prog_14_method_37_code, 3, none, "complain", [])
def t_Mod_complain : List (Nat × Instr × Nat) := [(0, .iconst 1, 1), (1, .istore_n 1, 1), (2, .iload_n 1, 1), (3, .aload_n 0, 1), (4, .getfield 207, 3), (7, .if_icmp .gt 125, 3), (10, .iconst 1, 1), (11, .istore_n 2, 1), (12, .iload_n 2, 1), (13, .aload_n 0, 1), (14, .getfield 207, 3), (17, .if_icmp .gt 109, 3), (20, .aload_n 0, 1), (21, .iload_n 1, 1), (22, .iconst 2, 1), (23, .invokevirtual 294, 3), (26, .ifCond .eq 100, 3), (29, .aload_n 0, 1), (30, .getfield 237, 3), (33, .iload_n 2, 1), (34, .invokestatic 263, 3), (37, .ifCond .eq 83, 3), (40, .aload_n 0, 1), (41, .iload_n 2, 1), (42, .iload_n 1, 1), (43, .aload_n 0, 1), (44, .getfield 46, 3), (47, .aload_n 0, 1), (48, .iload_n 2, 1), (49, .iload_n 1, 1), (50, .invokevirtual 303, 3), (53, .iaload, 1), (54, .aload_n 0, 1), (55, .getfield 49, 3), (58, .aload_n 0, 1), (59, .iload_n 2, 1), (60, .iload_n 1, 1), (61, .invokevirtual 303, 3), (64, .iaload, 1), (65, .invokevirtual 312, 3), (68, .ifCond .eq 21, 3), (71, .aload_n 0, 1), (72, .getfield 34, 3), (75, .bipush 14, 2), (77, .iload_n 1, 1), (78, .iadd, 1), (79, .iconst 1, 1), (80, .isub, 1), (81, .iaload, 1), (82, .iload_n 2, 1), (83, .if_icmp .eq 6, 3), (86, .goto 34, 3), (89, .aload_n 0, 1), (90, .getfield 40, 3), (93, .iload_n 2, 1), (94, .iconst 1, 1), (95, .isub, 1), (96, .dup2, 1), (97, .iaload, 1), (98, .iconst 1, 1), (99, .iload_n 1, 1), (100, .iconst 1, 1), (101, .isub, 1), (102, .ishl, 1), (103, .ior, 1), (104, .iastore, 1), (105, .aload_n 0, 1), (106, .iconst 2, 1), (107, .invokevirtual 266, 3), (110, .aload_n 0, 1), (111, .iload_n 1, 1), (112, .invokevirtual 266, 3), (115, .aload_n 0, 1), (116, .iload_n 2, 1), (117, .invokevirtual 266, 3), (120, .iinc 2 1, 3), (123, .goto (-111), 3), (126, .iinc 1 1, 3), (129, .goto (-127), 3), (132, .return_, 1)]
set_option maxRecDepth 100000 in
theorem k_Mod_complain : jDec m_Mod_complain.2.1 t_Mod_complain := by decide +kernel
def y_Mod_in : MethodName := ⟨"SharingRoomModel", "in", "(II)Z"⟩
def m_Mod_in : jM := ("SharingRoomModel", prog_14_method_30_code, 2, (some FieldType.boolean), "in", [])
def t_Mod_in : List (Nat × Instr × Nat) := [(0, .iload_n 0, 1), (1, .iload_n 1, 1), (2, .iconst 1, 1), (3, .isub, 1), (4, .ishr, 1), (5, .iconst 1, 1), (6, .iand, 1), (7, .iconst 1, 1), (8, .if_icmp .ne 7, 3), (11, .iconst 1, 1), (12, .goto 4, 3), (15, .iconst 0, 1), (16, .ireturn, 1)]
set_option maxRecDepth 100000 in
theorem k_Mod_in : jDec m_Mod_in.2.1 t_Mod_in := by decide +kernel
def y_Mod_fits : MethodName := ⟨"SharingRoomModel", "fits", "(IIII)Z"⟩
def m_Mod_fits : jM := ("SharingRoomModel", prog_14_method_27_code, 7, (some FieldType.boolean), "fits", [])
def t_Mod_fits : List (Nat × Instr × Nat) := [(0, .iconst 0, 1), (1, .istore 5, 2), (3, .iconst 0, 1), (4, .istore 6, 2), (6, .iload 6, 2), (8, .aload_n 0, 1), (9, .getfield 216, 3), (12, .if_icmp .ge 42, 3), (15, .iload 5, 2), (17, .aload_n 0, 1), (18, .getfield 58, 3), (21, .bipush 7, 2), (23, .iload_n 1, 1), (24, .imul, 1), (25, .bipush 7, 2), (27, .isub, 1), (28, .iload 6, 2), (30, .iadd, 1), (31, .iaload, 1), (32, .aload_n 0, 1), (33, .iload_n 2, 1), (34, .iload 6, 2), (36, .invokevirtual 259, 3), (39, .imul, 1), (40, .iadd, 1), (41, .aload_n 0, 1), (42, .getfield 213, 3), (45, .irem, 1), (46, .istore 5, 2), (48, .iinc 6 1, 3), (51, .goto (-45), 3), (54, .iload_n 3, 1), (55, .aload_n 0, 1), (56, .getfield 25, 3), (59, .aload_n 0, 1), (60, .getfield 210, 3), (63, .iaload, 1), (64, .iload 4, 2), (66, .imul, 1), (67, .iadd, 1), (68, .aload_n 0, 1), (69, .getfield 213, 3), (72, .irem, 1), (73, .iload 5, 2), (75, .if_icmp .ne 7, 3), (78, .iconst 1, 1), (79, .goto 4, 3), (82, .iconst 0, 1), (83, .ireturn, 1)]
set_option maxRecDepth 100000 in
theorem k_Mod_fits : jDec m_Mod_fits.2.1 t_Mod_fits := by decide +kernel
def y_Mod_answer : MethodName := ⟨"SharingRoomModel", "answer", "()V"⟩
def m_Mod_answer : jM := ("SharingRoomModel", prog_14_method_38_code, 3, none, "answer", [])
def t_Mod_answer : List (Nat × Instr × Nat) := [(0, .iconst 1, 1), (1, .istore_n 1, 1), (2, .iload_n 1, 1), (3, .aload_n 0, 1), (4, .getfield 207, 3), (7, .if_icmp .gt 160, 3), (10, .iconst 1, 1), (11, .istore_n 2, 1), (12, .iload_n 2, 1), (13, .aload_n 0, 1), (14, .getfield 207, 3), (17, .if_icmp .gt 144, 3), (20, .aload_n 0, 1), (21, .iload_n 1, 1), (22, .iconst 3, 1), (23, .invokevirtual 294, 3), (26, .ifCond .eq 135, 3), (29, .aload_n 0, 1), (30, .iload_n 1, 1), (31, .iconst 3, 1), (32, .invokevirtual 297, 3), (35, .ifCond .ne 126, 3), (38, .aload_n 0, 1), (39, .getfield 40, 3), (42, .iload_n 1, 1), (43, .iconst 1, 1), (44, .isub, 1), (45, .iaload, 1), (46, .iload_n 2, 1), (47, .invokestatic 263, 3), (50, .ifCond .ne 6, 3), (53, .goto 102, 3), (56, .aload_n 0, 1), (57, .getfield 43, 3), (60, .iload_n 1, 1), (61, .iconst 1, 1), (62, .isub, 1), (63, .dup2, 1), (64, .iaload, 1), (65, .iconst 1, 1), (66, .iload_n 2, 1), (67, .iconst 1, 1), (68, .isub, 1), (69, .ishl, 1), (70, .ior, 1), (71, .iastore, 1), (72, .aload_n 0, 1), (73, .getfield 52, 3), (76, .aload_n 0, 1), (77, .iload_n 1, 1), (78, .iload_n 2, 1), (79, .invokevirtual 303, 3), (82, .aload_n 0, 1), (83, .iload_n 1, 1), (84, .iload_n 2, 1), (85, .invokevirtual 306, 3), (88, .aload_n 0, 1), (89, .iload_n 1, 1), (90, .iconst 4, 1), (91, .invokevirtual 297, 3), (94, .ifCond .eq 7, 3), (97, .iconst 1, 1), (98, .goto 4, 3), (101, .iconst 0, 1), (102, .iadd, 1), (103, .aload_n 0, 1), (104, .getfield 213, 3), (107, .irem, 1), (108, .iastore, 1), (109, .aload_n 0, 1), (110, .getfield 55, 3), (113, .aload_n 0, 1), (114, .iload_n 1, 1), (115, .iload_n 2, 1), (116, .invokevirtual 303, 3), (119, .aload_n 0, 1), (120, .iload_n 1, 1), (121, .iload_n 2, 1), (122, .invokevirtual 309, 3), (125, .iastore, 1), (126, .aload_n 0, 1), (127, .iconst 3, 1), (128, .iload_n 1, 1), (129, .iload_n 2, 1), (130, .aload_n 0, 1), (131, .getfield 52, 3), (134, .aload_n 0, 1), (135, .iload_n 1, 1), (136, .iload_n 2, 1), (137, .invokevirtual 303, 3), (140, .iaload, 1), (141, .aload_n 0, 1), (142, .getfield 55, 3), (145, .aload_n 0, 1), (146, .iload_n 1, 1), (147, .iload_n 2, 1), (148, .invokevirtual 303, 3), (151, .iaload, 1), (152, .invokevirtual 316, 3), (155, .iinc 2 1, 3), (158, .goto (-146), 3), (161, .iinc 1 1, 3), (164, .goto (-162), 3), (167, .return_, 1)]
set_option maxRecDepth 100000 in
theorem k_Mod_answer : jDec m_Mod_answer.2.1 t_Mod_answer := by decide +kernel
def y_Mod_showNumbers : MethodName := ⟨"SharingRoomModel", "showNumbers", "(IIIII)V"⟩
def m_Mod_showNumbers : jM := ("SharingRoomModel", prog_14_method_34_code, 6, none, "showNumbers", [])
def t_Mod_showNumbers : List (Nat × Instr × Nat) := [(0, .aload_n 0, 1), (1, .iload_n 1, 1), (2, .invokevirtual 266, 3), (5, .aload_n 0, 1), (6, .iload_n 2, 1), (7, .invokevirtual 266, 3), (10, .aload_n 0, 1), (11, .iload_n 3, 1), (12, .invokevirtual 266, 3), (15, .aload_n 0, 1), (16, .iload 4, 2), (18, .invokevirtual 270, 3), (21, .aload_n 0, 1), (22, .iload 5, 2), (24, .invokevirtual 270, 3), (27, .return_, 1)]
set_option maxRecDepth 100000 in
theorem k_Mod_showNumbers : jDec m_Mod_showNumbers.2.1 t_Mod_showNumbers := by decide +kernel
def y_Mod_judge : MethodName := ⟨"SharingRoomModel", "judge", "()V"⟩
def m_Mod_judge : jM := ("SharingRoomModel", prog_14_method_39_code, 4, none, "judge", [])
def t_Mod_judge : List (Nat × Instr × Nat) := [(0, .iconst 1, 1), (1, .istore_n 1, 1), (2, .iload_n 1, 1), (3, .aload_n 0, 1), (4, .getfield 207, 3), (7, .if_icmp .gt 204, 3), (10, .aload_n 0, 1), (11, .getfield 237, 3), (14, .iload_n 1, 1), (15, .invokestatic 263, 3), (18, .ifCond .eq 44, 3), (21, .aload_n 0, 1), (22, .getfield 40, 3), (25, .iload_n 1, 1), (26, .iconst 1, 1), (27, .isub, 1), (28, .iaload, 1), (29, .invokestatic 320, 3), (32, .aload_n 0, 1), (33, .getfield 216, 3), (36, .if_icmp .ge 26, 3), (39, .aload_n 0, 1), (40, .getfield 43, 3), (43, .iload_n 1, 1), (44, .iconst 1, 1), (45, .isub, 1), (46, .iaload, 1), (47, .aload_n 0, 1), (48, .getfield 40, 3), (51, .iload_n 1, 1), (52, .iconst 1, 1), (53, .isub, 1), (54, .iaload, 1), (55, .if_icmp .ne 7, 3), (58, .iconst 1, 1), (59, .goto 4, 3), (62, .iconst 0, 1), (63, .istore_n 2, 1), (64, .iconst 1, 1), (65, .istore_n 3, 1), (66, .iload_n 3, 1), (67, .aload_n 0, 1), (68, .getfield 207, 3), (71, .if_icmp .gt 112, 3), (74, .aload_n 0, 1), (75, .getfield 43, 3), (78, .iload_n 1, 1), (79, .iconst 1, 1), (80, .isub, 1), (81, .iaload, 1), (82, .iload_n 3, 1), (83, .invokestatic 263, 3), (86, .ifCond .ne 6, 3), (89, .goto 88, 3), (92, .iload_n 2, 1), (93, .ifCond .eq 38, 3), (96, .aload_n 0, 1), (97, .iload_n 1, 1), (98, .iload_n 3, 1), (99, .aload_n 0, 1), (100, .getfield 52, 3), (103, .aload_n 0, 1), (104, .iload_n 1, 1), (105, .iload_n 3, 1), (106, .invokevirtual 303, 3), (109, .iaload, 1), (110, .aload_n 0, 1), (111, .getfield 55, 3), (114, .aload_n 0, 1), (115, .iload_n 1, 1), (116, .iload_n 3, 1), (117, .invokevirtual 303, 3), (120, .iaload, 1), (121, .invokevirtual 312, 3), (124, .ifCond .eq 7, 3), (127, .iconst 1, 1), (128, .goto 4, 3), (131, .iconst 0, 1), (132, .istore_n 2, 1), (133, .aload_n 0, 1), (134, .getfield 46, 3), (137, .aload_n 0, 1), (138, .iload_n 1, 1), (139, .iload_n 3, 1), (140, .invokevirtual 303, 3), (143, .aload_n 0, 1), (144, .getfield 52, 3), (147, .aload_n 0, 1), (148, .iload_n 1, 1), (149, .iload_n 3, 1), (150, .invokevirtual 303, 3), (153, .iaload, 1), (154, .iastore, 1), (155, .aload_n 0, 1), (156, .getfield 49, 3), (159, .aload_n 0, 1), (160, .iload_n 1, 1), (161, .iload_n 3, 1), (162, .invokevirtual 303, 3), (165, .aload_n 0, 1), (166, .getfield 55, 3), (169, .aload_n 0, 1), (170, .iload_n 1, 1), (171, .iload_n 3, 1), (172, .invokevirtual 303, 3), (175, .iaload, 1), (176, .iastore, 1), (177, .iinc 3 1, 3), (180, .goto (-114), 3), (183, .aload_n 0, 1), (184, .dup, 1), (185, .getfield 243, 3), (188, .iload_n 2, 1), (189, .ifCond .eq 11, 3), (192, .iconst 1, 1), (193, .iload_n 1, 1), (194, .iconst 1, 1), (195, .isub, 1), (196, .ishl, 1), (197, .goto 4, 3), (200, .iconst 0, 1), (201, .ior, 1), (202, .putfield 243, 3), (205, .iinc 1 1, 3), (208, .goto (-206), 3), (211, .iconst 1, 1), (212, .istore_n 1, 1), (213, .iload_n 1, 1), (214, .aload_n 0, 1), (215, .getfield 207, 3), (218, .if_icmp .gt 123, 3), (221, .aload_n 0, 1), (222, .getfield 64, 3), (225, .iload_n 1, 1), (226, .iconst 1, 1), (227, .isub, 1), (228, .iconst 0, 1), (229, .iastore, 1), (230, .aload_n 0, 1), (231, .getfield 67, 3), (234, .iload_n 1, 1), (235, .iconst 1, 1), (236, .isub, 1), (237, .iconst 0, 1), (238, .iastore, 1), (239, .iconst 1, 1), (240, .istore_n 2, 1), (241, .iload_n 2, 1), (242, .aload_n 0, 1), (243, .getfield 207, 3), (246, .if_icmp .gt 89, 3), (249, .aload_n 0, 1), (250, .getfield 243, 3), (253, .iload_n 2, 1), (254, .invokestatic 263, 3), (257, .ifCond .ne 6, 3), (260, .goto 69, 3), (263, .aload_n 0, 1), (264, .getfield 64, 3), (267, .iload_n 1, 1), (268, .iconst 1, 1), (269, .isub, 1), (270, .aload_n 0, 1), (271, .getfield 64, 3), (274, .iload_n 1, 1), (275, .iconst 1, 1), (276, .isub, 1), (277, .iaload, 1), (278, .aload_n 0, 1), (279, .getfield 46, 3), (282, .aload_n 0, 1), (283, .iload_n 2, 1), (284, .iload_n 1, 1), (285, .invokevirtual 303, 3), (288, .iaload, 1), (289, .iadd, 1), (290, .aload_n 0, 1), (291, .getfield 213, 3), (294, .irem, 1), (295, .iastore, 1), (296, .aload_n 0, 1), (297, .getfield 67, 3), (300, .iload_n 1, 1), (301, .iconst 1, 1), (302, .isub, 1), (303, .aload_n 0, 1), (304, .getfield 67, 3), (307, .iload_n 1, 1), (308, .iconst 1, 1), (309, .isub, 1), (310, .iaload, 1), (311, .aload_n 0, 1), (312, .getfield 49, 3), (315, .aload_n 0, 1), (316, .iload_n 2, 1), (317, .iload_n 1, 1), (318, .invokevirtual 303, 3), (321, .iaload, 1), (322, .iadd, 1), (323, .aload_n 0, 1), (324, .getfield 213, 3), (327, .irem, 1), (328, .iastore, 1), (329, .iinc 2 1, 3), (332, .goto (-91), 3), (335, .iinc 1 1, 3), (338, .goto (-125), 3), (341, .aload_n 0, 1), (342, .aload_n 0, 1), (343, .getfield 243, 3), (346, .ifCond .ne 7, 3), (349, .iconst 1, 1), (350, .goto 4, 3), (353, .iconst 0, 1), (354, .putfield 228, 3), (357, .return_, 1)]
set_option maxRecDepth 100000 in
theorem k_Mod_judge : jDec m_Mod_judge.2.1 t_Mod_judge := by decide +kernel
def y_Mod_bits : MethodName := ⟨"SharingRoomModel", "bits", "(I)I"⟩
def m_Mod_bits : jM := ("SharingRoomModel", prog_14_method_31_code, 3, (some FieldType.int), "bits", [])
def t_Mod_bits : List (Nat × Instr × Nat) := [(0, .iconst 0, 1), (1, .istore_n 1, 1), (2, .iconst 1, 1), (3, .istore_n 2, 1), (4, .iload_n 2, 1), (5, .bipush 8, 2), (7, .if_icmp .ge 25, 3), (10, .iload_n 1, 1), (11, .iload_n 0, 1), (12, .iload_n 2, 1), (13, .invokestatic 263, 3), (16, .ifCond .eq 7, 3), (19, .iconst 1, 1), (20, .goto 4, 3), (23, .iconst 0, 1), (24, .iadd, 1), (25, .istore_n 1, 1), (26, .iinc 2 1, 3), (29, .goto (-25), 3), (32, .iload_n 1, 1), (33, .ireturn, 1)]
set_option maxRecDepth 100000 in
theorem k_Mod_bits : jDec m_Mod_bits.2.1 t_Mod_bits := by decide +kernel
def y_Mod_extract : MethodName := ⟨"SharingRoomModel", "extract", "()V"⟩
def m_Mod_extract : jM := ("SharingRoomModel", prog_14_method_40_code, 4, none, "extract", [])
def t_Mod_extract : List (Nat × Instr × Nat) := [(0, .iconst 1, 1), (1, .istore_n 1, 1), (2, .iload_n 1, 1), (3, .aload_n 0, 1), (4, .getfield 207, 3), (7, .if_icmp .gt 132, 3), (10, .aload_n 0, 1), (11, .iload_n 1, 1), (12, .iconst 5, 1), (13, .invokevirtual 294, 3), (16, .ifCond .eq 117, 3), (19, .aload_n 0, 1), (20, .getfield 243, 3), (23, .iload_n 1, 1), (24, .invokestatic 263, 3), (27, .ifCond .ne 6, 3), (30, .goto 103, 3), (33, .aload_n 0, 1), (34, .dup, 1), (35, .getfield 240, 3), (38, .iconst 1, 1), (39, .iload_n 1, 1), (40, .iconst 1, 1), (41, .isub, 1), (42, .ishl, 1), (43, .ior, 1), (44, .putfield 240, 3), (47, .aload_n 0, 1), (48, .iconst 5, 1), (49, .invokevirtual 266, 3), (52, .aload_n 0, 1), (53, .iload_n 1, 1), (54, .invokevirtual 266, 3), (57, .iconst 0, 1), (58, .istore_n 2, 1), (59, .iload_n 2, 1), (60, .aload_n 0, 1), (61, .getfield 216, 3), (64, .if_icmp .ge 69, 3), (67, .bipush 7, 2), (69, .iload_n 1, 1), (70, .imul, 1), (71, .bipush 7, 2), (73, .isub, 1), (74, .iload_n 2, 1), (75, .iadd, 1), (76, .istore_n 3, 1), (77, .aload_n 0, 1), (78, .getfield 61, 3), (81, .iload_n 3, 1), (82, .aload_n 0, 1), (83, .getfield 28, 3), (86, .iload_n 3, 1), (87, .iaload, 1), (88, .iload_n 2, 1), (89, .ifCond .ne 16, 3), (92, .aload_n 0, 1), (93, .iload_n 1, 1), (94, .iconst 5, 1), (95, .invokevirtual 297, 3), (98, .ifCond .eq 7, 3), (101, .iconst 1, 1), (102, .goto 4, 3), (105, .iconst 0, 1), (106, .iadd, 1), (107, .aload_n 0, 1), (108, .getfield 213, 3), (111, .irem, 1), (112, .iastore, 1), (113, .aload_n 0, 1), (114, .aload_n 0, 1), (115, .aload_n 0, 1), (116, .getfield 61, 3), (119, .iload_n 3, 1), (120, .iaload, 1), (121, .invokevirtual 300, 3), (124, .invokevirtual 270, 3), (127, .iinc 2 1, 3), (130, .goto (-71), 3), (133, .iinc 1 1, 3), (136, .goto (-134), 3), (139, .return_, 1)]
set_option maxRecDepth 100000 in
theorem k_Mod_extract : jDec m_Mod_extract.2.1 t_Mod_extract := by decide +kernel
def y_Mod_accuse : MethodName := ⟨"SharingRoomModel", "accuse", "()V"⟩
def m_Mod_accuse : jM := ("SharingRoomModel", prog_14_method_41_code, 7, none, "accuse", [])
def t_Mod_accuse : List (Nat × Instr × Nat) := [(0, .iconst 1, 1), (1, .istore_n 1, 1), (2, .iload_n 1, 1), (3, .aload_n 0, 1), (4, .getfield 207, 3), (7, .if_icmp .gt 179, 3), (10, .iconst 1, 1), (11, .istore_n 2, 1), (12, .iload_n 2, 1), (13, .aload_n 0, 1), (14, .getfield 207, 3), (17, .if_icmp .gt 163, 3), (20, .aload_n 0, 1), (21, .iload_n 1, 1), (22, .bipush 6, 2), (24, .invokevirtual 294, 3), (27, .ifCond .eq 153, 3), (30, .aload_n 0, 1), (31, .getfield 243, 3), (34, .aload_n 0, 1), (35, .getfield 240, 3), (38, .iand, 1), (39, .iload_n 2, 1), (40, .invokestatic 263, 3), (43, .ifCond .ne 6, 3), (46, .goto 128, 3), (49, .aload_n 0, 1), (50, .getfield 46, 3), (53, .aload_n 0, 1), (54, .iload_n 2, 1), (55, .iload_n 1, 1), (56, .invokevirtual 303, 3), (59, .iaload, 1), (60, .istore_n 3, 1), (61, .aload_n 0, 1), (62, .getfield 49, 3), (65, .aload_n 0, 1), (66, .iload_n 2, 1), (67, .iload_n 1, 1), (68, .invokevirtual 303, 3), (71, .iaload, 1), (72, .istore 4, 2), (74, .iconst 0, 1), (75, .istore 5, 2), (77, .iconst 0, 1), (78, .istore 6, 2), (80, .iload 6, 2), (82, .aload_n 0, 1), (83, .getfield 216, 3), (86, .if_icmp .ge 42, 3), (89, .iload 5, 2), (91, .aload_n 0, 1), (92, .getfield 61, 3), (95, .bipush 7, 2), (97, .iload_n 2, 1), (98, .imul, 1), (99, .bipush 7, 2), (101, .isub, 1), (102, .iload 6, 2), (104, .iadd, 1), (105, .iaload, 1), (106, .aload_n 0, 1), (107, .iload_n 1, 1), (108, .iload 6, 2), (110, .invokevirtual 259, 3), (113, .imul, 1), (114, .iadd, 1), (115, .aload_n 0, 1), (116, .getfield 213, 3), (119, .irem, 1), (120, .istore 5, 2), (122, .iinc 6 1, 3), (125, .goto (-45), 3), (128, .iload_n 3, 1), (129, .iload 5, 2), (131, .if_icmp .eq 43, 3), (134, .aload_n 0, 1), (135, .iload_n 2, 1), (136, .iload_n 1, 1), (137, .iload_n 3, 1), (138, .iload 4, 2), (140, .invokevirtual 312, 3), (143, .ifCond .ne 6, 3), (146, .goto 28, 3), (149, .aload_n 0, 1), (150, .dup, 1), (151, .getfield 246, 3), (154, .iconst 1, 1), (155, .iload_n 2, 1), (156, .iconst 1, 1), (157, .isub, 1), (158, .ishl, 1), (159, .ior, 1), (160, .putfield 246, 3), (163, .aload_n 0, 1), (164, .bipush 6, 2), (166, .iload_n 1, 1), (167, .iload_n 2, 1), (168, .iload_n 3, 1), (169, .iload 4, 2), (171, .invokevirtual 316, 3), (174, .iinc 2 1, 3), (177, .goto (-165), 3), (180, .iinc 1 1, 3), (183, .goto (-181), 3), (186, .return_, 1)]
set_option maxRecDepth 100000 in
theorem k_Mod_accuse : jDec m_Mod_accuse.2.1 t_Mod_accuse := by decide +kernel
def y_Mod_open : MethodName := ⟨"SharingRoomModel", "open", "()V"⟩
def m_Mod_open : jM := ("SharingRoomModel", prog_14_method_42_code, 6, none, "open", [])
def t_Mod_open : List (Nat × Instr × Nat) := [(0, .iconst 0, 1), (1, .istore_n 1, 1), (2, .iconst 1, 1), (3, .istore_n 2, 1), (4, .iload_n 2, 1), (5, .aload_n 0, 1), (6, .getfield 207, 3), (9, .if_icmp .gt 285, 3), (12, .aload_n 0, 1), (13, .getfield 243, 3), (16, .iload_n 2, 1), (17, .invokestatic 263, 3), (20, .ifCond .ne 6, 3), (23, .goto 265, 3), (26, .aload_n 0, 1), (27, .getfield 246, 3), (30, .iload_n 2, 1), (31, .invokestatic 263, 3), (34, .ifCond .ne 37, 3), (37, .aload_n 0, 1), (38, .getfield 240, 3), (41, .iload_n 2, 1), (42, .invokestatic 263, 3), (45, .ifCond .eq 26, 3), (48, .iload_n 1, 1), (49, .aload_n 0, 1), (50, .getfield 61, 3), (53, .bipush 7, 2), (55, .iload_n 2, 1), (56, .imul, 1), (57, .bipush 7, 2), (59, .isub, 1), (60, .iaload, 1), (61, .iadd, 1), (62, .aload_n 0, 1), (63, .getfield 213, 3), (66, .irem, 1), (67, .istore_n 1, 1), (68, .goto 220, 3), (71, .iconst 0, 1), (72, .istore_n 3, 1), (73, .iconst 1, 1), (74, .istore 4, 2), (76, .iload 4, 2), (78, .aload_n 0, 1), (79, .getfield 207, 3), (82, .if_icmp .gt 137, 3), (85, .aload_n 0, 1), (86, .iload 4, 2), (88, .bipush 7, 2), (90, .invokevirtual 294, 3), (93, .ifCond .ne 6, 3), (96, .goto 117, 3), (99, .aload_n 0, 1), (100, .getfield 46, 3), (103, .aload_n 0, 1), (104, .iload_n 2, 1), (105, .iload 4, 2), (107, .invokevirtual 303, 3), (110, .iaload, 1), (111, .aload_n 0, 1), (112, .iload 4, 2), (114, .bipush 6, 2), (116, .invokevirtual 297, 3), (119, .ifCond .eq 7, 3), (122, .iconst 1, 1), (123, .goto 4, 3), (126, .iconst 0, 1), (127, .iadd, 1), (128, .aload_n 0, 1), (129, .getfield 213, 3), (132, .irem, 1), (133, .istore 5, 2), (135, .aload_n 0, 1), (136, .bipush 7, 2), (138, .iload 4, 2), (140, .iload_n 2, 1), (141, .iload 5, 2), (143, .aload_n 0, 1), (144, .getfield 49, 3), (147, .aload_n 0, 1), (148, .iload_n 2, 1), (149, .iload 4, 2), (151, .invokevirtual 303, 3), (154, .iaload, 1), (155, .invokevirtual 316, 3), (158, .aload_n 0, 1), (159, .iload_n 2, 1), (160, .iload 4, 2), (162, .iload 5, 2), (164, .aload_n 0, 1), (165, .getfield 49, 3), (168, .aload_n 0, 1), (169, .iload_n 2, 1), (170, .iload 4, 2), (172, .invokevirtual 303, 3), (175, .iaload, 1), (176, .invokevirtual 312, 3), (179, .ifCond .eq 34, 3), (182, .iload_n 3, 1), (183, .invokestatic 320, 3), (186, .aload_n 0, 1), (187, .getfield 216, 3), (190, .if_icmp .ge 23, 3), (193, .iload_n 3, 1), (194, .iconst 1, 1), (195, .iload 4, 2), (197, .iconst 1, 1), (198, .isub, 1), (199, .ishl, 1), (200, .ior, 1), (201, .istore_n 3, 1), (202, .aload_n 0, 1), (203, .getfield 70, 3), (206, .iload 4, 2), (208, .iconst 1, 1), (209, .isub, 1), (210, .iload 5, 2), (212, .iastore, 1), (213, .iinc 4 1, 3), (216, .goto (-140), 3), (219, .aload_n 0, 1), (220, .aload_n 0, 1), (221, .getfield 228, 3), (224, .ifCond .ne 14, 3), (227, .iload_n 3, 1), (228, .invokestatic 320, 3), (231, .aload_n 0, 1), (232, .getfield 216, 3), (235, .if_icmp .ge 7, 3), (238, .iconst 1, 1), (239, .goto 4, 3), (242, .iconst 0, 1), (243, .putfield 228, 3), (246, .aload_n 0, 1), (247, .dup, 1), (248, .getfield 249, 3), (251, .iload_n 3, 1), (252, .invokestatic 320, 3), (255, .aload_n 0, 1), (256, .getfield 216, 3), (259, .if_icmp .ge 7, 3), (262, .iconst 0, 1), (263, .goto 8, 3), (266, .iconst 1, 1), (267, .iload_n 2, 1), (268, .iconst 1, 1), (269, .isub, 1), (270, .ishl, 1), (271, .ior, 1), (272, .putfield 249, 3), (275, .iload_n 1, 1), (276, .aload_n 0, 1), (277, .iload_n 3, 1), (278, .invokevirtual 323, 3), (281, .iadd, 1), (282, .aload_n 0, 1), (283, .getfield 213, 3), (286, .irem, 1), (287, .istore_n 1, 1), (288, .iinc 2 1, 3), (291, .goto (-287), 3), (294, .aload_n 0, 1), (295, .iload_n 1, 1), (296, .putfield 326, 3), (299, .aload_n 0, 1), (300, .aload_n 0, 1), (301, .getfield 228, 3), (304, .ifCond .ne 7, 3), (307, .iconst 1, 1), (308, .goto 4, 3), (311, .iconst 0, 1), (312, .putfield 225, 3), (315, .return_, 1)]
set_option maxRecDepth 100000 in
theorem k_Mod_open : jDec m_Mod_open.2.1 t_Mod_open := by decide +kernel
def y_Mod_atZero : MethodName := ⟨"SharingRoomModel", "atZero", "(I)I"⟩
def m_Mod_atZero : jM := ("SharingRoomModel", prog_14_method_44_code, 4, (some FieldType.int), "atZero", [])
def t_Mod_atZero : List (Nat × Instr × Nat) := [(0, .iconst 0, 1), (1, .istore_n 2, 1), (2, .iconst 1, 1), (3, .istore_n 3, 1), (4, .iload_n 3, 1), (5, .bipush 8, 2), (7, .if_icmp .ge 44, 3), (10, .iload_n 1, 1), (11, .iload_n 3, 1), (12, .invokestatic 263, 3), (15, .ifCond .eq 28, 3), (18, .iload_n 2, 1), (19, .aload_n 0, 1), (20, .iload_n 1, 1), (21, .iload_n 3, 1), (22, .invokevirtual 329, 3), (25, .aload_n 0, 1), (26, .getfield 70, 3), (29, .iload_n 3, 1), (30, .iconst 1, 1), (31, .isub, 1), (32, .iaload, 1), (33, .imul, 1), (34, .iadd, 1), (35, .aload_n 0, 1), (36, .getfield 213, 3), (39, .irem, 1), (40, .goto 4, 3), (43, .iload_n 2, 1), (44, .istore_n 2, 1), (45, .iinc 3 1, 3), (48, .goto (-44), 3), (51, .iload_n 2, 1), (52, .ireturn, 1)]
set_option maxRecDepth 100000 in
theorem k_Mod_atZero : jDec m_Mod_atZero.2.1 t_Mod_atZero := by decide +kernel
def y_Mod_weight : MethodName := ⟨"SharingRoomModel", "weight", "(II)I"⟩
def m_Mod_weight : jM := ("SharingRoomModel", prog_14_method_43_code, 7, (some FieldType.int), "weight", [])
def t_Mod_weight : List (Nat × Instr × Nat) := [(0, .iconst 1, 1), (1, .istore_n 3, 1), (2, .iconst 1, 1), (3, .istore 4, 2), (5, .iload 4, 2), (7, .bipush 8, 2), (9, .if_icmp .ge 82, 3), (12, .iload_n 1, 1), (13, .iload 4, 2), (15, .invokestatic 263, 3), (18, .ifCond .eq 67, 3), (21, .iload 4, 2), (23, .iload_n 2, 1), (24, .if_icmp .ne 6, 3), (27, .goto 58, 3), (30, .iload 4, 2), (32, .iload_n 2, 1), (33, .isub, 1), (34, .aload_n 0, 1), (35, .getfield 213, 3), (38, .iadd, 1), (39, .aload_n 0, 1), (40, .getfield 213, 3), (43, .irem, 1), (44, .istore 5, 2), (46, .iconst 0, 1), (47, .istore 6, 2), (49, .iload 6, 2), (51, .iload 5, 2), (53, .imul, 1), (54, .aload_n 0, 1), (55, .getfield 213, 3), (58, .irem, 1), (59, .iload 4, 2), (61, .aload_n 0, 1), (62, .getfield 213, 3), (65, .irem, 1), (66, .if_icmp .eq 9, 3), (69, .iinc 6 1, 3), (72, .goto (-23), 3), (75, .iload_n 3, 1), (76, .iload 6, 2), (78, .imul, 1), (79, .aload_n 0, 1), (80, .getfield 213, 3), (83, .irem, 1), (84, .istore_n 3, 1), (85, .iinc 4 1, 3), (88, .goto (-83), 3), (91, .iload_n 3, 1), (92, .ireturn, 1)]
set_option maxRecDepth 100000 in
theorem k_Mod_weight : jDec m_Mod_weight.2.1 t_Mod_weight := by decide +kernel
def y_Mod_state : MethodName := ⟨"SharingRoomModel", "state", "()I"⟩
def m_Mod_state : jM := ("SharingRoomModel", prog_14_method_45_code, 1, (some FieldType.int), "state", [])
def t_Mod_state : List (Nat × Instr × Nat) := [(0, .aload_n 0, 1), (1, .iconst 0, 1), (2, .putfield 170, 3), (5, .aload_n 0, 1), (6, .getfield 203, 3), (9, .ifCond .ne 7, 3), (12, .iconst 0, 1), (13, .goto 26, 3), (16, .aload_n 0, 1), (17, .getfield 225, 3), (20, .ifCond .eq 7, 3), (23, .iconst 2, 1), (24, .goto 15, 3), (27, .aload_n 0, 1), (28, .getfield 228, 3), (31, .ifCond .eq 7, 3), (34, .iconst 3, 1), (35, .goto 4, 3), (38, .iconst 1, 1), (39, .ireturn, 1)]
set_option maxRecDepth 100000 in
theorem k_Mod_state : jDec m_Mod_state.2.1 t_Mod_state := by decide +kernel
def y_Mod_parties : MethodName := ⟨"SharingRoomModel", "parties", "(I)I"⟩
def m_Mod_parties : jM := ("SharingRoomModel", prog_14_method_47_code, 4, (some FieldType.int), "parties", [])
def t_Mod_parties : List (Nat × Instr × Nat) := [(0, .aload_n 0, 1), (1, .iconst 0, 1), (2, .putfield 170, 3), (5, .iload_n 1, 1), (6, .ifCond .lt 8, 3), (9, .iload_n 1, 1), (10, .iconst 3, 1), (11, .if_icmp .le 5, 3), (14, .iconst (-1), 1), (15, .ireturn, 1), (16, .aload_n 0, 1), (17, .getfield 203, 3), (20, .ifCond .ne 5, 3), (23, .iconst 0, 1), (24, .ireturn, 1), (25, .iload_n 1, 1), (26, .ifCond .ne 25, 3), (29, .aload_n 0, 1), (30, .getfield 231, 3), (33, .iconst 4, 1), (34, .if_icmp .lt 15, 3), (37, .aload_n 0, 1), (38, .getfield 243, 3), (41, .aload_n 0, 1), (42, .invokevirtual 332, 3), (45, .iand, 1), (46, .goto 4, 3), (49, .iconst 0, 1), (50, .ireturn, 1), (51, .iload_n 1, 1), (52, .iconst 1, 1), (53, .if_icmp .ne 26, 3), (56, .aload_n 0, 1), (57, .getfield 231, 3), (60, .bipush 6, 2), (62, .if_icmp .lt 15, 3), (65, .aload_n 0, 1), (66, .getfield 246, 3), (69, .aload_n 0, 1), (70, .invokevirtual 332, 3), (73, .iand, 1), (74, .goto 4, 3), (77, .iconst 0, 1), (78, .ireturn, 1), (79, .iload_n 1, 1), (80, .iconst 2, 1), (81, .if_icmp .ne 26, 3), (84, .aload_n 0, 1), (85, .getfield 231, 3), (88, .bipush 7, 2), (90, .if_icmp .lt 15, 3), (93, .aload_n 0, 1), (94, .getfield 249, 3), (97, .aload_n 0, 1), (98, .invokevirtual 332, 3), (101, .iand, 1), (102, .goto 4, 3), (105, .iconst 0, 1), (106, .ireturn, 1), (107, .iconst 0, 1), (108, .istore_n 2, 1), (109, .iconst 1, 1), (110, .istore_n 3, 1), (111, .iload_n 3, 1), (112, .aload_n 0, 1), (113, .getfield 207, 3), (116, .if_icmp .gt 54, 3), (119, .iload_n 2, 1), (120, .aload_n 0, 1), (121, .iload_n 3, 1), (122, .aload_n 0, 1), (123, .getfield 225, 3), (126, .ifCond .ne 10, 3), (129, .aload_n 0, 1), (130, .getfield 228, 3), (133, .ifCond .eq 8, 3), (136, .bipush 8, 2), (138, .goto 9, 3), (141, .aload_n 0, 1), (142, .getfield 231, 3), (145, .iconst 1, 1), (146, .iadd, 1), (147, .invokevirtual 294, 3), (150, .ifCond .eq 11, 3), (153, .iconst 1, 1), (154, .iload_n 3, 1), (155, .iconst 1, 1), (156, .isub, 1), (157, .ishl, 1), (158, .goto 4, 3), (161, .iconst 0, 1), (162, .ior, 1), (163, .istore_n 2, 1), (164, .iinc 3 1, 3), (167, .goto (-56), 3), (170, .iload_n 2, 1), (171, .ireturn, 1)]
set_option maxRecDepth 100000 in
theorem k_Mod_parties : jDec m_Mod_parties.2.1 t_Mod_parties := by decide +kernel
def y_Mod_mask : MethodName := ⟨"SharingRoomModel", "mask", "()I"⟩
def m_Mod_mask : jM := ("SharingRoomModel", prog_14_method_46_code, 1, (some FieldType.int), "mask", [])
def t_Mod_mask : List (Nat × Instr × Nat) := [(0, .iconst 1, 1), (1, .aload_n 0, 1), (2, .getfield 207, 3), (5, .ishl, 1), (6, .iconst 1, 1), (7, .isub, 1), (8, .ireturn, 1)]
set_option maxRecDepth 100000 in
theorem k_Mod_mask : jDec m_Mod_mask.2.1 t_Mod_mask := by decide +kernel
def y_Mod_complaints : MethodName := ⟨"SharingRoomModel", "complaints", "(I)I"⟩
def m_Mod_complaints : jM := ("SharingRoomModel", prog_14_method_48_code, 2, (some FieldType.int), "complaints", [])
def t_Mod_complaints : List (Nat × Instr × Nat) := [(0, .aload_n 0, 1), (1, .aload_n 0, 1), (2, .iload_n 1, 1), (3, .invokevirtual 255, 3), (6, .ifCond .eq 7, 3), (9, .iconst 0, 1), (10, .goto 4, 3), (13, .iconst 1, 1), (14, .putfield 170, 3), (17, .aload_n 0, 1), (18, .getfield 170, 3), (21, .ifCond .le 7, 3), (24, .iconst 0, 1), (25, .goto 16, 3), (28, .aload_n 0, 1), (29, .getfield 40, 3), (32, .iload_n 1, 1), (33, .iconst 1, 1), (34, .isub, 1), (35, .iaload, 1), (36, .aload_n 0, 1), (37, .invokevirtual 332, 3), (40, .iand, 1), (41, .ireturn, 1)]
set_option maxRecDepth 100000 in
theorem k_Mod_complaints : jDec m_Mod_complaints.2.1 t_Mod_complaints := by decide +kernel
def y_Mod_received : MethodName := ⟨"SharingRoomModel", "received", "(III)I"⟩
def m_Mod_received : jM := ("SharingRoomModel", prog_14_method_49_code, 4, (some FieldType.int), "received", [])
def t_Mod_received : List (Nat × Instr × Nat) := [(0, .aload_n 0, 1), (1, .aload_n 0, 1), (2, .iload_n 1, 1), (3, .invokevirtual 255, 3), (6, .ifCond .eq 20, 3), (9, .aload_n 0, 1), (10, .iload_n 2, 1), (11, .invokevirtual 255, 3), (14, .ifCond .eq 12, 3), (17, .iload_n 3, 1), (18, .ifCond .lt 8, 3), (21, .iload_n 3, 1), (22, .iconst 1, 1), (23, .if_icmp .le 7, 3), (26, .iconst 1, 1), (27, .goto 4, 3), (30, .iconst 0, 1), (31, .putfield 170, 3), (34, .aload_n 0, 1), (35, .getfield 170, 3), (38, .ifCond .le 5, 3), (41, .iconst 0, 1), (42, .ireturn, 1), (43, .aload_n 0, 1), (44, .getfield 237, 3), (47, .iload_n 1, 1), (48, .invokestatic 263, 3), (51, .ifCond .eq 11, 3), (54, .iload_n 2, 1), (55, .aload_n 0, 1), (56, .getfield 219, 3), (59, .if_icmp .le 5, 3), (62, .iconst (-1), 1), (63, .ireturn, 1), (64, .iload_n 3, 1), (65, .ifCond .ne 17, 3), (68, .aload_n 0, 1), (69, .getfield 46, 3), (72, .aload_n 0, 1), (73, .iload_n 1, 1), (74, .iload_n 2, 1), (75, .invokevirtual 303, 3), (78, .iaload, 1), (79, .goto 14, 3), (82, .aload_n 0, 1), (83, .getfield 49, 3), (86, .aload_n 0, 1), (87, .iload_n 1, 1), (88, .iload_n 2, 1), (89, .invokevirtual 303, 3), (92, .iaload, 1), (93, .ireturn, 1)]
set_option maxRecDepth 100000 in
theorem k_Mod_received : jDec m_Mod_received.2.1 t_Mod_received := by decide +kernel
def y_Mod_commitment : MethodName := ⟨"SharingRoomModel", "commitment", "(III)I"⟩
def m_Mod_commitment : jM := ("SharingRoomModel", prog_14_method_50_code, 4, (some FieldType.int), "commitment", [])
def t_Mod_commitment : List (Nat × Instr × Nat) := [(0, .aload_n 0, 1), (1, .aload_n 0, 1), (2, .iload_n 1, 1), (3, .invokevirtual 255, 3), (6, .ifCond .eq 24, 3), (9, .iload_n 2, 1), (10, .ifCond .lt 20, 3), (13, .iload_n 2, 1), (14, .aload_n 0, 1), (15, .getfield 216, 3), (18, .if_icmp .ge 12, 3), (21, .iload_n 3, 1), (22, .ifCond .lt 8, 3), (25, .iload_n 3, 1), (26, .iconst 1, 1), (27, .if_icmp .le 7, 3), (30, .iconst 1, 1), (31, .goto 4, 3), (34, .iconst 0, 1), (35, .putfield 170, 3), (38, .aload_n 0, 1), (39, .getfield 170, 3), (42, .ifCond .le 5, 3), (45, .iconst 0, 1), (46, .ireturn, 1), (47, .iload_n 3, 1), (48, .ifCond .ne 10, 3), (51, .aload_n 0, 1), (52, .getfield 237, 3), (55, .goto 7, 3), (58, .aload_n 0, 1), (59, .getfield 240, 3), (62, .iload_n 1, 1), (63, .invokestatic 263, 3), (66, .ifCond .eq 11, 3), (69, .iload_n 2, 1), (70, .aload_n 0, 1), (71, .getfield 222, 3), (74, .if_icmp .lt 5, 3), (77, .iconst (-1), 1), (78, .ireturn, 1), (79, .aload_n 0, 1), (80, .iload_n 3, 1), (81, .ifCond .ne 20, 3), (84, .aload_n 0, 1), (85, .getfield 58, 3), (88, .bipush 7, 2), (90, .iload_n 1, 1), (91, .imul, 1), (92, .bipush 7, 2), (94, .isub, 1), (95, .iload_n 2, 1), (96, .iadd, 1), (97, .iaload, 1), (98, .goto 17, 3), (101, .aload_n 0, 1), (102, .getfield 61, 3), (105, .bipush 7, 2), (107, .iload_n 1, 1), (108, .imul, 1), (109, .bipush 7, 2), (111, .isub, 1), (112, .iload_n 2, 1), (113, .iadd, 1), (114, .iaload, 1), (115, .invokevirtual 300, 3), (118, .ireturn, 1)]
set_option maxRecDepth 100000 in
theorem k_Mod_commitment : jDec m_Mod_commitment.2.1 t_Mod_commitment := by decide +kernel
def y_Mod_share : MethodName := ⟨"SharingRoomModel", "share", "(II)I"⟩
def m_Mod_share : jM := ("SharingRoomModel", prog_14_method_51_code, 3, (some FieldType.int), "share", [])
def t_Mod_share : List (Nat × Instr × Nat) := [(0, .aload_n 0, 1), (1, .aload_n 0, 1), (2, .iload_n 1, 1), (3, .invokevirtual 255, 3), (6, .ifCond .eq 12, 3), (9, .iload_n 2, 1), (10, .ifCond .lt 8, 3), (13, .iload_n 2, 1), (14, .iconst 1, 1), (15, .if_icmp .le 7, 3), (18, .iconst 1, 1), (19, .goto 4, 3), (22, .iconst 0, 1), (23, .putfield 170, 3), (26, .aload_n 0, 1), (27, .getfield 170, 3), (30, .ifCond .le 5, 3), (33, .iconst 0, 1), (34, .ireturn, 1), (35, .aload_n 0, 1), (36, .getfield 231, 3), (39, .iconst 4, 1), (40, .if_icmp .lt 18, 3), (43, .aload_n 0, 1), (44, .getfield 228, 3), (47, .ifCond .eq 13, 3), (50, .aload_n 0, 1), (51, .getfield 231, 3), (54, .iconst 4, 1), (55, .if_icmp .ne 5, 3), (58, .iconst (-1), 1), (59, .ireturn, 1), (60, .iload_n 2, 1), (61, .ifCond .ne 14, 3), (64, .aload_n 0, 1), (65, .getfield 64, 3), (68, .iload_n 1, 1), (69, .iconst 1, 1), (70, .isub, 1), (71, .iaload, 1), (72, .goto 11, 3), (75, .aload_n 0, 1), (76, .getfield 67, 3), (79, .iload_n 1, 1), (80, .iconst 1, 1), (81, .isub, 1), (82, .iaload, 1), (83, .ireturn, 1)]
set_option maxRecDepth 100000 in
theorem k_Mod_share : jDec m_Mod_share.2.1 t_Mod_share := by decide +kernel
def y_Mod_board : MethodName := ⟨"SharingRoomModel", "board", "()I"⟩
def m_Mod_board : jM := ("SharingRoomModel", prog_14_method_52_code, 1, (some FieldType.int), "board", [])
def t_Mod_board : List (Nat × Instr × Nat) := [(0, .aload_n 0, 1), (1, .iconst 0, 1), (2, .putfield 170, 3), (5, .aload_n 0, 1), (6, .getfield 234, 3), (9, .ireturn, 1)]
set_option maxRecDepth 100000 in
theorem k_Mod_board : jDec m_Mod_board.2.1 t_Mod_board := by decide +kernel
def y_Mod_told : MethodName := ⟨"SharingRoomModel", "told", "(I)I"⟩
def m_Mod_told : jM := ("SharingRoomModel", prog_14_method_53_code, 2, (some FieldType.int), "told", [])
def t_Mod_told : List (Nat × Instr × Nat) := [(0, .aload_n 0, 1), (1, .iload_n 1, 1), (2, .ifCond .lt 11, 3), (5, .iload_n 1, 1), (6, .aload_n 0, 1), (7, .getfield 234, 3), (10, .if_icmp .lt 7, 3), (13, .iconst 1, 1), (14, .goto 4, 3), (17, .iconst 0, 1), (18, .putfield 170, 3), (21, .aload_n 0, 1), (22, .getfield 170, 3), (25, .ifCond .le 7, 3), (28, .iconst 0, 1), (29, .goto 9, 3), (32, .aload_n 0, 1), (33, .getfield 73, 3), (36, .iload_n 1, 1), (37, .iaload, 1), (38, .ireturn, 1)]
set_option maxRecDepth 100000 in
theorem k_Mod_told : jDec m_Mod_told.2.1 t_Mod_told := by decide +kernel
def y_Mod_key : MethodName := ⟨"SharingRoomModel", "key", "()I"⟩
def m_Mod_key : jM := ("SharingRoomModel", prog_14_method_54_code, 1, (some FieldType.int), "key", [])
def t_Mod_key : List (Nat × Instr × Nat) := [(0, .aload_n 0, 1), (1, .iconst 0, 1), (2, .putfield 170, 3), (5, .aload_n 0, 1), (6, .getfield 203, 3), (9, .ifCond .eq 21, 3), (12, .aload_n 0, 1), (13, .getfield 225, 3), (16, .ifCond .eq 14, 3), (19, .aload_n 0, 1), (20, .aload_n 0, 1), (21, .getfield 326, 3), (24, .invokevirtual 300, 3), (27, .goto 4, 3), (30, .iconst (-1), 1), (31, .ireturn, 1)]
set_option maxRecDepth 100000 in
theorem k_Mod_key : jDec m_Mod_key.2.1 t_Mod_key := by decide +kernel
def y_Mod_digest : MethodName := ⟨"SharingRoomModel", "digest", "(I)I"⟩
def m_Mod_digest : jM := ("SharingRoomModel", prog_14_method_59_code, 4, (some FieldType.int), "digest", [])
def t_Mod_digest : List (Nat × Instr × Nat) := [(0, .aload_n 0, 1), (1, .iload_n 1, 1), (2, .ifCond .lt 9, 3), (5, .iload_n 1, 1), (6, .bipush 7, 2), (8, .if_icmp .le 7, 3), (11, .iconst 1, 1), (12, .goto 4, 3), (15, .iconst 0, 1), (16, .putfield 170, 3), (19, .aload_n 0, 1), (20, .getfield 170, 3), (23, .ifCond .le 5, 3), (26, .iconst 0, 1), (27, .ireturn, 1), (28, .aload_n 0, 1), (29, .getfield 234, 3), (32, .bipush 9, 2), (34, .iadd, 1), (35, .bipush 63, 2), (37, .iadd, 1), (38, .bipush 64, 2), (40, .idiv, 1), (41, .bipush 64, 2), (43, .imul, 1), (44, .istore_n 2, 1), (45, .iconst 0, 1), (46, .istore_n 3, 1), (47, .iload_n 3, 1), (48, .bipush 8, 2), (50, .if_icmp .ge 21, 3), (53, .aload_n 0, 1), (54, .getfield 146, 3), (57, .iload_n 3, 1), (58, .aload_n 0, 1), (59, .getfield 157, 3), (62, .iload_n 3, 1), (63, .iaload, 1), (64, .iastore, 1), (65, .iinc 3 1, 3), (68, .goto (-21), 3), (71, .iconst 0, 1), (72, .istore_n 3, 1), (73, .iload_n 3, 1), (74, .iload_n 2, 1), (75, .if_icmp .ge 15, 3), (78, .aload_n 0, 1), (79, .iload_n 3, 1), (80, .iload_n 2, 1), (81, .invokevirtual 345, 3), (84, .iinc 3 64, 3), (87, .goto (-14), 3), (90, .aload_n 0, 1), (91, .getfield 146, 3), (94, .iload_n 1, 1), (95, .iaload, 1), (96, .ireturn, 1)]
set_option maxRecDepth 100000 in
theorem k_Mod_digest : jDec m_Mod_digest.2.1 t_Mod_digest := by decide +kernel
def y_Mod_block : MethodName := ⟨"SharingRoomModel", "block", "(II)V"⟩
def m_Mod_block : jM := ("SharingRoomModel", prog_14_method_57_code, 6, none, "block", [])
def t_Mod_block : List (Nat × Instr × Nat) := [(0, .iconst 0, 1), (1, .istore_n 3, 1), (2, .iload_n 3, 1), (3, .bipush 16, 2), (5, .if_icmp .ge 68, 3), (8, .iload_n 1, 1), (9, .iconst 4, 1), (10, .iload_n 3, 1), (11, .imul, 1), (12, .iadd, 1), (13, .istore 4, 2), (15, .aload_n 0, 1), (16, .getfield 160, 3), (19, .iload_n 3, 1), (20, .aload_n 0, 1), (21, .iload 4, 2), (23, .iload_n 2, 1), (24, .invokevirtual 336, 3), (27, .bipush 24, 2), (29, .ishl, 1), (30, .aload_n 0, 1), (31, .iload 4, 2), (33, .iconst 1, 1), (34, .iadd, 1), (35, .iload_n 2, 1), (36, .invokevirtual 336, 3), (39, .bipush 16, 2), (41, .ishl, 1), (42, .ior, 1), (43, .aload_n 0, 1), (44, .iload 4, 2), (46, .iconst 2, 1), (47, .iadd, 1), (48, .iload_n 2, 1), (49, .invokevirtual 336, 3), (52, .bipush 8, 2), (54, .ishl, 1), (55, .ior, 1), (56, .aload_n 0, 1), (57, .iload 4, 2), (59, .iconst 3, 1), (60, .iadd, 1), (61, .iload_n 2, 1), (62, .invokevirtual 336, 3), (65, .ior, 1), (66, .iastore, 1), (67, .iinc 3 1, 3), (70, .goto (-68), 3), (73, .bipush 16, 2), (75, .istore_n 3, 1), (76, .iload_n 3, 1), (77, .bipush 64, 2), (79, .if_icmp .ge 98, 3), (82, .aload_n 0, 1), (83, .getfield 160, 3), (86, .iload_n 3, 1), (87, .bipush 15, 2), (89, .isub, 1), (90, .iaload, 1), (91, .istore 4, 2), (93, .aload_n 0, 1), (94, .getfield 160, 3), (97, .iload_n 3, 1), (98, .iconst 2, 1), (99, .isub, 1), (100, .iaload, 1), (101, .istore 5, 2), (103, .aload_n 0, 1), (104, .getfield 160, 3), (107, .iload_n 3, 1), (108, .aload_n 0, 1), (109, .getfield 160, 3), (112, .iload_n 3, 1), (113, .bipush 16, 2), (115, .isub, 1), (116, .iaload, 1), (117, .iload 4, 2), (119, .bipush 7, 2), (121, .invokestatic 339, 3), (124, .iload 4, 2), (126, .bipush 18, 2), (128, .invokestatic 339, 3), (131, .ixor, 1), (132, .iload 4, 2), (134, .iconst 3, 1), (135, .iushr, 1), (136, .ixor, 1), (137, .iadd, 1), (138, .aload_n 0, 1), (139, .getfield 160, 3), (142, .iload_n 3, 1), (143, .bipush 7, 2), (145, .isub, 1), (146, .iaload, 1), (147, .iadd, 1), (148, .iload 5, 2), (150, .bipush 17, 2), (152, .invokestatic 339, 3), (155, .iload 5, 2), (157, .bipush 19, 2), (159, .invokestatic 339, 3), (162, .ixor, 1), (163, .iload 5, 2), (165, .bipush 10, 2), (167, .iushr, 1), (168, .ixor, 1), (169, .iadd, 1), (170, .iastore, 1), (171, .iinc 3 1, 3), (174, .goto (-98), 3), (177, .iconst 0, 1), (178, .istore_n 3, 1), (179, .iload_n 3, 1), (180, .bipush 8, 2), (182, .if_icmp .ge 21, 3), (185, .aload_n 0, 1), (186, .getfield 163, 3), (189, .iload_n 3, 1), (190, .aload_n 0, 1), (191, .getfield 146, 3), (194, .iload_n 3, 1), (195, .iaload, 1), (196, .iastore, 1), (197, .iinc 3 1, 3), (200, .goto (-21), 3), (203, .iconst 0, 1), (204, .istore_n 3, 1), (205, .iload_n 3, 1), (206, .bipush 64, 2), (208, .if_icmp .ge 14, 3), (211, .aload_n 0, 1), (212, .iload_n 3, 1), (213, .invokevirtual 342, 3), (216, .iinc 3 1, 3), (219, .goto (-14), 3), (222, .iconst 0, 1), (223, .istore_n 3, 1), (224, .iload_n 3, 1), (225, .bipush 8, 2), (227, .if_icmp .ge 24, 3), (230, .aload_n 0, 1), (231, .getfield 146, 3), (234, .iload_n 3, 1), (235, .dup2, 1), (236, .iaload, 1), (237, .aload_n 0, 1), (238, .getfield 163, 3), (241, .iload_n 3, 1), (242, .iaload, 1), (243, .iadd, 1), (244, .iastore, 1), (245, .iinc 3 1, 3), (248, .goto (-24), 3), (251, .return_, 1)]
set_option maxRecDepth 100000 in
theorem k_Mod_block : jDec m_Mod_block.2.1 t_Mod_block := by decide +kernel
end
section
def y_Mod_padded : MethodName := ⟨"SharingRoomModel", "padded", "(II)I"⟩
def m_Mod_padded : jM := ("SharingRoomModel", prog_14_method_56_code, 3, (some FieldType.int), "padded", [])
def t_Mod_padded : List (Nat × Instr × Nat) := [(0, .iload_n 1, 1), (1, .aload_n 0, 1), (2, .getfield 234, 3), (5, .if_icmp .ge 10, 3), (8, .aload_n 0, 1), (9, .getfield 73, 3), (12, .iload_n 1, 1), (13, .iaload, 1), (14, .ireturn, 1), (15, .iload_n 1, 1), (16, .aload_n 0, 1), (17, .getfield 234, 3), (20, .if_icmp .ne 7, 3), (23, .sipush 128, 3), (26, .ireturn, 1), (27, .iload_n 1, 1), (28, .iload_n 2, 1), (29, .iconst 4, 1), (30, .isub, 1), (31, .if_icmp .ge 7, 3), (34, .iconst 0, 1), (35, .goto 23, 3), (38, .aload_n 0, 1), (39, .getfield 234, 3), (42, .bipush 8, 2), (44, .imul, 1), (45, .bipush 8, 2), (47, .iload_n 2, 1), (48, .iconst 1, 1), (49, .isub, 1), (50, .iload_n 1, 1), (51, .isub, 1), (52, .imul, 1), (53, .iushr, 1), (54, .sipush 255, 3), (57, .iand, 1), (58, .ireturn, 1)]
set_option maxRecDepth 100000 in
theorem k_Mod_padded : jDec m_Mod_padded.2.1 t_Mod_padded := by decide +kernel
def y_Mod_right : MethodName := ⟨"SharingRoomModel", "right", "(II)I"⟩
def m_Mod_right : jM := ("SharingRoomModel", prog_14_method_55_code, 2, (some FieldType.int), "right", [])
def t_Mod_right : List (Nat × Instr × Nat) := [(0, .iload_n 0, 1), (1, .iload_n 1, 1), (2, .iushr, 1), (3, .iload_n 0, 1), (4, .bipush 32, 2), (6, .iload_n 1, 1), (7, .isub, 1), (8, .ishl, 1), (9, .ior, 1), (10, .ireturn, 1)]
set_option maxRecDepth 100000 in
theorem k_Mod_right : jDec m_Mod_right.2.1 t_Mod_right := by decide +kernel
def y_Mod_mix : MethodName := ⟨"SharingRoomModel", "mix", "(I)V"⟩
def m_Mod_mix : jM := ("SharingRoomModel", prog_14_method_58_code, 7, none, "mix", [])
def t_Mod_mix : List (Nat × Instr × Nat) := [(0, .aload_n 0, 1), (1, .getfield 163, 3), (4, .iconst 4, 1), (5, .iaload, 1), (6, .istore_n 2, 1), (7, .aload_n 0, 1), (8, .getfield 163, 3), (11, .iconst 0, 1), (12, .iaload, 1), (13, .istore_n 3, 1), (14, .aload_n 0, 1), (15, .getfield 163, 3), (18, .bipush 7, 2), (20, .iaload, 1), (21, .iload_n 2, 1), (22, .bipush 6, 2), (24, .invokestatic 339, 3), (27, .iload_n 2, 1), (28, .bipush 11, 2), (30, .invokestatic 339, 3), (33, .ixor, 1), (34, .iload_n 2, 1), (35, .bipush 25, 2), (37, .invokestatic 339, 3), (40, .ixor, 1), (41, .iadd, 1), (42, .iload_n 2, 1), (43, .aload_n 0, 1), (44, .getfield 163, 3), (47, .iconst 5, 1), (48, .iaload, 1), (49, .iand, 1), (50, .iload_n 2, 1), (51, .iconst (-1), 1), (52, .ixor, 1), (53, .aload_n 0, 1), (54, .getfield 163, 3), (57, .bipush 6, 2), (59, .iaload, 1), (60, .iand, 1), (61, .ixor, 1), (62, .iadd, 1), (63, .iload_n 1, 1), (64, .bipush 32, 2), (66, .if_icmp .ge 12, 3), (69, .aload_n 0, 1), (70, .getfield 108, 3), (73, .iload_n 1, 1), (74, .iaload, 1), (75, .goto 12, 3), (78, .aload_n 0, 1), (79, .getfield 143, 3), (82, .iload_n 1, 1), (83, .bipush 32, 2), (85, .isub, 1), (86, .iaload, 1), (87, .iadd, 1), (88, .aload_n 0, 1), (89, .getfield 160, 3), (92, .iload_n 1, 1), (93, .iaload, 1), (94, .iadd, 1), (95, .istore 4, 2), (97, .iload_n 3, 1), (98, .iconst 2, 1), (99, .invokestatic 339, 3), (102, .iload_n 3, 1), (103, .bipush 13, 2), (105, .invokestatic 339, 3), (108, .ixor, 1), (109, .iload_n 3, 1), (110, .bipush 22, 2), (112, .invokestatic 339, 3), (115, .ixor, 1), (116, .iload_n 3, 1), (117, .aload_n 0, 1), (118, .getfield 163, 3), (121, .iconst 1, 1), (122, .iaload, 1), (123, .iand, 1), (124, .iload_n 3, 1), (125, .aload_n 0, 1), (126, .getfield 163, 3), (129, .iconst 2, 1), (130, .iaload, 1), (131, .iand, 1), (132, .ixor, 1), (133, .aload_n 0, 1), (134, .getfield 163, 3), (137, .iconst 1, 1), (138, .iaload, 1), (139, .aload_n 0, 1), (140, .getfield 163, 3), (143, .iconst 2, 1), (144, .iaload, 1), (145, .iand, 1), (146, .ixor, 1), (147, .iadd, 1), (148, .istore 5, 2), (150, .bipush 7, 2), (152, .istore 6, 2), (154, .iload 6, 2), (156, .ifCond .le 25, 3), (159, .aload_n 0, 1), (160, .getfield 163, 3), (163, .iload 6, 2), (165, .aload_n 0, 1), (166, .getfield 163, 3), (169, .iload 6, 2), (171, .iconst 1, 1), (172, .isub, 1), (173, .iaload, 1), (174, .iastore, 1), (175, .iinc 6 (-1), 3), (178, .goto (-24), 3), (181, .aload_n 0, 1), (182, .getfield 163, 3), (185, .iconst 4, 1), (186, .dup2, 1), (187, .iaload, 1), (188, .iload 4, 2), (190, .iadd, 1), (191, .iastore, 1), (192, .aload_n 0, 1), (193, .getfield 163, 3), (196, .iconst 0, 1), (197, .iload 4, 2), (199, .iload 5, 2), (201, .iadd, 1), (202, .iastore, 1), (203, .return_, 1)]
set_option maxRecDepth 100000 in
theorem k_Mod_mix : jDec m_Mod_mix.2.1 t_Mod_mix := by decide +kernel
def y_Mod_recover : MethodName := ⟨"SharingRoomModel", "recover", "(I)I"⟩
def m_Mod_recover : jM := ("SharingRoomModel", prog_14_method_61_code, 3, (some FieldType.int), "recover", [])
def t_Mod_recover : List (Nat × Instr × Nat) := [(0, .aload_n 0, 1), (1, .aload_n 0, 1), (2, .getfield 203, 3), (5, .ifCond .eq 10, 3), (8, .aload_n 0, 1), (9, .getfield 225, 3), (12, .ifCond .ne 7, 3), (15, .iconst 1, 1), (16, .goto 16, 3), (19, .aload_n 0, 1), (20, .iload_n 1, 1), (21, .invokevirtual 349, 3), (24, .ifCond .ne 7, 3), (27, .iconst 2, 1), (28, .goto 4, 3), (31, .iconst 0, 1), (32, .putfield 170, 3), (35, .aload_n 0, 1), (36, .getfield 170, 3), (39, .ifCond .le 5, 3), (42, .iconst 0, 1), (43, .ireturn, 1), (44, .iconst 0, 1), (45, .istore_n 2, 1), (46, .iload_n 2, 1), (47, .bipush 7, 2), (49, .if_icmp .ge 21, 3), (52, .aload_n 0, 1), (53, .getfield 70, 3), (56, .iload_n 2, 1), (57, .aload_n 0, 1), (58, .getfield 64, 3), (61, .iload_n 2, 1), (62, .iaload, 1), (63, .iastore, 1), (64, .iinc 2 1, 3), (67, .goto (-21), 3), (70, .aload_n 0, 1), (71, .iload_n 1, 1), (72, .invokevirtual 323, 3), (75, .ireturn, 1)]
set_option maxRecDepth 100000 in
theorem k_Mod_recover : jDec m_Mod_recover.2.1 t_Mod_recover := by decide +kernel
def y_Mod_enough : MethodName := ⟨"SharingRoomModel", "enough", "(I)Z"⟩
def m_Mod_enough : jM := ("SharingRoomModel", prog_14_method_60_code, 2, (some FieldType.boolean), "enough", [])
def t_Mod_enough : List (Nat × Instr × Nat) := [(0, .iload_n 1, 1), (1, .ifCond .lt 26, 3), (4, .iload_n 1, 1), (5, .aload_n 0, 1), (6, .invokevirtual 332, 3), (9, .if_icmp .gt 18, 3), (12, .iload_n 1, 1), (13, .invokestatic 320, 3), (16, .aload_n 0, 1), (17, .getfield 216, 3), (20, .if_icmp .lt 7, 3), (23, .iconst 1, 1), (24, .goto 4, 3), (27, .iconst 0, 1), (28, .ireturn, 1)]
set_option maxRecDepth 100000 in
theorem k_Mod_enough : jDec m_Mod_enough.2.1 t_Mod_enough := by decide +kernel
def y_Mod_refresh : MethodName := ⟨"SharingRoomModel", "refresh", "()V"⟩
def m_Mod_refresh : jM := ("SharingRoomModel", prog_14_method_62_code, 4, none, "refresh", [])
def t_Mod_refresh : List (Nat × Instr × Nat) := [(0, .aload_n 0, 1), (1, .aload_n 0, 1), (2, .getfield 203, 3), (5, .ifCond .eq 10, 3), (8, .aload_n 0, 1), (9, .getfield 225, 3), (12, .ifCond .ne 7, 3), (15, .iconst 1, 1), (16, .goto 4, 3), (19, .iconst 0, 1), (20, .putfield 170, 3), (23, .aload_n 0, 1), (24, .getfield 170, 3), (27, .ifCond .le 4, 3), (30, .return_, 1), (31, .iconst 1, 1), (32, .istore_n 1, 1), (33, .iload_n 1, 1), (34, .aload_n 0, 1), (35, .getfield 207, 3), (38, .if_icmp .gt 100, 3), (41, .iconst 1, 1), (42, .istore_n 2, 1), (43, .iload_n 2, 1), (44, .aload_n 0, 1), (45, .getfield 207, 3), (48, .if_icmp .gt 75, 3), (51, .aload_n 0, 1), (52, .iload_n 2, 1), (53, .bipush 8, 2), (55, .invokevirtual 294, 3), (58, .ifCond .ne 6, 3), (61, .goto 56, 3), (64, .aload_n 0, 1), (65, .iload_n 2, 1), (66, .iload_n 1, 1), (67, .invokevirtual 306, 3), (70, .aload_n 0, 1), (71, .getfield 28, 3), (74, .bipush 7, 2), (76, .iload_n 2, 1), (77, .imul, 1), (78, .bipush 7, 2), (80, .isub, 1), (81, .iaload, 1), (82, .isub, 1), (83, .aload_n 0, 1), (84, .getfield 213, 3), (87, .iadd, 1), (88, .aload_n 0, 1), (89, .getfield 213, 3), (92, .irem, 1), (93, .istore_n 3, 1), (94, .aload_n 0, 1), (95, .getfield 64, 3), (98, .iload_n 1, 1), (99, .iconst 1, 1), (100, .isub, 1), (101, .aload_n 0, 1), (102, .getfield 64, 3), (105, .iload_n 1, 1), (106, .iconst 1, 1), (107, .isub, 1), (108, .iaload, 1), (109, .iload_n 3, 1), (110, .iadd, 1), (111, .aload_n 0, 1), (112, .getfield 213, 3), (115, .irem, 1), (116, .iastore, 1), (117, .iinc 2 1, 3), (120, .goto (-77), 3), (123, .aload_n 0, 1), (124, .getfield 67, 3), (127, .iload_n 1, 1), (128, .iconst 1, 1), (129, .isub, 1), (130, .iconst 0, 1), (131, .iastore, 1), (132, .iinc 1 1, 3), (135, .goto (-102), 3), (138, .aload_n 0, 1), (139, .invokevirtual 252, 3), (142, .return_, 1)]
set_option maxRecDepth 100000 in
theorem k_Mod_refresh : jDec m_Mod_refresh.2.1 t_Mod_refresh := by decide +kernel
def y_Mod_handOn : MethodName := ⟨"SharingRoomModel", "handOn", "(III)V"⟩
def m_Mod_handOn : jM := ("SharingRoomModel", prog_14_method_63_code, 9, none, "handOn", [])
def t_Mod_handOn : List (Nat × Instr × Nat) := [(0, .aload_n 0, 1), (1, .aload_n 0, 1), (2, .getfield 203, 3), (5, .ifCond .eq 10, 3), (8, .aload_n 0, 1), (9, .getfield 225, 3), (12, .ifCond .ne 7, 3), (15, .iconst 1, 1), (16, .goto 37, 3), (19, .aload_n 0, 1), (20, .iload_n 1, 1), (21, .invokevirtual 349, 3), (24, .ifCond .eq 24, 3), (27, .iload_n 3, 1), (28, .iconst 1, 1), (29, .if_icmp .lt 19, 3), (32, .iload_n 3, 1), (33, .bipush 7, 2), (35, .if_icmp .gt 13, 3), (38, .iload_n 2, 1), (39, .iconst 1, 1), (40, .if_icmp .lt 8, 3), (43, .iload_n 2, 1), (44, .iload_n 3, 1), (45, .if_icmp .le 7, 3), (48, .iconst 2, 1), (49, .goto 4, 3), (52, .iconst 0, 1), (53, .putfield 170, 3), (56, .aload_n 0, 1), (57, .getfield 170, 3), (60, .ifCond .le 4, 3), (63, .return_, 1), (64, .iconst 1, 1), (65, .istore 4, 2), (67, .iload 4, 2), (69, .iload_n 3, 1), (70, .if_icmp .gt 143, 3), (73, .iconst 0, 1), (74, .istore 5, 2), (76, .iconst 1, 1), (77, .istore 6, 2), (79, .iload 6, 2), (81, .aload_n 0, 1), (82, .getfield 207, 3), (85, .if_icmp .gt 111, 3), (88, .iload_n 1, 1), (89, .iload 6, 2), (91, .invokestatic 263, 3), (94, .ifCond .ne 6, 3), (97, .goto 93, 3), (100, .aload_n 0, 1), (101, .getfield 64, 3), (104, .iload 6, 2), (106, .iconst 1, 1), (107, .isub, 1), (108, .iaload, 1), (109, .istore 7, 2), (111, .iconst 1, 1), (112, .istore 8, 2), (114, .iload 8, 2), (116, .iload_n 2, 1), (117, .if_icmp .ge 53, 3), (120, .iload 8, 2), (122, .aload_n 0, 1), (123, .getfield 216, 3), (126, .if_icmp .ge 44, 3), (129, .iload 7, 2), (131, .aload_n 0, 1), (132, .getfield 28, 3), (135, .bipush 7, 2), (137, .iload 6, 2), (139, .imul, 1), (140, .bipush 7, 2), (142, .isub, 1), (143, .iload 8, 2), (145, .iadd, 1), (146, .iaload, 1), (147, .aload_n 0, 1), (148, .iload 4, 2), (150, .iload 8, 2), (152, .invokevirtual 259, 3), (155, .imul, 1), (156, .iadd, 1), (157, .aload_n 0, 1), (158, .getfield 213, 3), (161, .irem, 1), (162, .istore 7, 2), (164, .iinc 8 1, 3), (167, .goto (-53), 3), (170, .iload 5, 2), (172, .aload_n 0, 1), (173, .iload_n 1, 1), (174, .iload 6, 2), (176, .invokevirtual 329, 3), (179, .iload 7, 2), (181, .imul, 1), (182, .iadd, 1), (183, .aload_n 0, 1), (184, .getfield 213, 3), (187, .irem, 1), (188, .istore 5, 2), (190, .iinc 6 1, 3), (193, .goto (-114), 3), (196, .aload_n 0, 1), (197, .getfield 70, 3), (200, .iload 4, 2), (202, .iconst 1, 1), (203, .isub, 1), (204, .iload 5, 2), (206, .iastore, 1), (207, .iinc 4 1, 3), (210, .goto (-143), 3), (213, .aload_n 0, 1), (214, .iload_n 3, 1), (215, .putfield 207, 3), (218, .aload_n 0, 1), (219, .iload_n 2, 1), (220, .putfield 216, 3), (223, .aload_n 0, 1), (224, .invokevirtual 252, 3), (227, .iconst 0, 1), (228, .istore 4, 2), (230, .iload 4, 2), (232, .bipush 7, 2), (234, .if_icmp .ge 44, 3), (237, .aload_n 0, 1), (238, .getfield 64, 3), (241, .iload 4, 2), (243, .iload 4, 2), (245, .aload_n 0, 1), (246, .getfield 207, 3), (249, .if_icmp .ge 13, 3), (252, .aload_n 0, 1), (253, .getfield 70, 3), (256, .iload 4, 2), (258, .iaload, 1), (259, .goto 4, 3), (262, .iconst 0, 1), (263, .iastore, 1), (264, .aload_n 0, 1), (265, .getfield 67, 3), (268, .iload 4, 2), (270, .iconst 0, 1), (271, .iastore, 1), (272, .iinc 4 1, 3), (275, .goto (-45), 3), (278, .return_, 1)]
set_option maxRecDepth 100000 in
theorem k_Mod_handOn : jDec m_Mod_handOn.2.1 t_Mod_handOn := by decide +kernel
def y_Law_law : MethodName := ⟨"SharingRoomLaw", "law", "([I)Z"⟩
def m_Law_law : jM := ("SharingRoomLaw", code, 7, (some FieldType.boolean), "law", [])
def t_Law_law_0 : List (Nat × Instr × Nat) := [(0, .new 8, 3), (3, .dup, 1), (4, .invokespecial 74, 3), (7, .astore_n 1, 1), (8, .new 75, 3), (11, .dup, 1), (12, .invokespecial 77, 3), (15, .astore_n 2, 1), (16, .iconst 1, 1), (17, .newarray .long, 2), (19, .astore_n 3, 1), (20, .iconst 0, 1), (21, .istore 4, 2), (23, .iload 4, 2), (25, .aload_n 0, 1), (26, .arraylength, 1), (27, .iconst 5, 1), (28, .isub, 1), (29, .if_icmp .gt 1174, 3), (32, .aload_n 0, 1), (33, .iload 4, 2), (35, .iaload, 1), (36, .bipush 31, 2), (38, .iand, 1), (39, .tableswitch 1158 0 21 #[101, 137, 205, 261, 274, 334, 406, 466, 514, 558, 571, 596, 652, 732, 812, 880, 893, 949, 1005, 1018, 1074, 1098], 101), (140, .aload_n 1, 1), (141, .aload_n 0, 1), (142, .iload 4, 2), (144, .iconst 1, 1), (145, .iadd, 1), (146, .iaload, 1), (147, .invokestatic 78, 3), (150, .istore 5, 2), (152, .aload_n 2, 1), (153, .aload_n 0, 1), (154, .iload 4, 2), (156, .iconst 1, 1), (157, .iadd, 1), (158, .iaload, 1), (159, .invokevirtual 83, 3)]
set_option maxRecDepth 100000 in
theorem k_Law_law_0 : jDec m_Law_law.2.1 t_Law_law_0 := by decide +kernel
def t_Law_law_1 : List (Nat × Instr × Nat) := [(162, .aload_n 2, 1), (163, .invokevirtual 84, 3), (166, .iload 5, 2), (168, .if_icmp .eq 5, 3), (171, .iconst 0, 1), (172, .ireturn, 1), (173, .goto 1024, 3), (176, .aload_n 1, 1), (177, .aload_n 0, 1), (178, .iload 4, 2), (180, .iconst 1, 1), (181, .iadd, 1), (182, .iaload, 1), (183, .aload_n 0, 1), (184, .iload 4, 2), (186, .iconst 2, 1), (187, .iadd, 1), (188, .iaload, 1), (189, .aload_n 3, 1), (190, .invokestatic 87, 3), (193, .istore 5, 2), (195, .aload_n 2, 1), (196, .aload_n 0, 1), (197, .iload 4, 2), (199, .iconst 1, 1), (200, .iadd, 1), (201, .iaload, 1), (202, .aload_n 0, 1), (203, .iload 4, 2), (205, .iconst 2, 1), (206, .iadd, 1), (207, .iaload, 1), (208, .invokevirtual 90, 3), (211, .istore 6, 2), (213, .aload_n 2, 1), (214, .invokevirtual 84, 3), (217, .iload 5, 2), (219, .if_icmp .eq 5, 3), (222, .iconst 0, 1), (223, .ireturn, 1)]
set_option maxRecDepth 100000 in
theorem k_Law_law_1 : jDec m_Law_law.2.1 t_Law_law_1 := by decide +kernel
def t_Law_law_2 : List (Nat × Instr × Nat) := [(224, .iload 5, 2), (226, .ifCond .ne 15, 3), (229, .aload_n 3, 1), (230, .iconst 0, 1), (231, .laload, 1), (232, .iload 6, 2), (234, .i2l, 1), (235, .lcmp, 1), (236, .ifCond .eq 5, 3), (239, .iconst 0, 1), (240, .ireturn, 1), (241, .goto 956, 3), (244, .aload_n 1, 1), (245, .aload_n 0, 1), (246, .iload 4, 2), (248, .iconst 1, 1), (249, .iadd, 1), (250, .iaload, 1), (251, .aload_n 3, 1), (252, .invokestatic 91, 3), (255, .istore 5, 2), (257, .aload_n 2, 1), (258, .aload_n 0, 1), (259, .iload 4, 2), (261, .iconst 1, 1), (262, .iadd, 1), (263, .iaload, 1), (264, .invokevirtual 94, 3), (267, .istore 6, 2), (269, .aload_n 2, 1), (270, .invokevirtual 84, 3), (273, .iload 5, 2), (275, .if_icmp .eq 5, 3), (278, .iconst 0, 1), (279, .ireturn, 1), (280, .iload 5, 2), (282, .ifCond .ne 15, 3), (285, .aload_n 3, 1), (286, .iconst 0, 1), (287, .laload, 1)]
set_option maxRecDepth 100000 in
theorem k_Law_law_2 : jDec m_Law_law.2.1 t_Law_law_2 := by decide +kernel
def t_Law_law_3 : List (Nat × Instr × Nat) := [(288, .iload 6, 2), (290, .i2l, 1), (291, .lcmp, 1), (292, .ifCond .eq 5, 3), (295, .iconst 0, 1), (296, .ireturn, 1), (297, .goto 900, 3), (300, .aload_n 1, 1), (301, .invokevirtual 95, 3), (304, .aload_n 2, 1), (305, .invokevirtual 98, 3), (308, .if_icmp .eq 889, 3), (311, .iconst 0, 1), (312, .ireturn, 1), (313, .aload_n 1, 1), (314, .aload_n 0, 1), (315, .iload 4, 2), (317, .iconst 1, 1), (318, .iadd, 1), (319, .iaload, 1), (320, .aload_n 0, 1), (321, .iload 4, 2), (323, .iconst 2, 1), (324, .iadd, 1), (325, .iaload, 1), (326, .aload_n 0, 1), (327, .iload 4, 2), (329, .iconst 3, 1), (330, .iadd, 1), (331, .iaload, 1), (332, .invokestatic 99, 3), (335, .istore 5, 2), (337, .aload_n 2, 1), (338, .aload_n 0, 1), (339, .iload 4, 2), (341, .iconst 1, 1), (342, .iadd, 1), (343, .iaload, 1), (344, .aload_n 0, 1), (345, .iload 4, 2)]
set_option maxRecDepth 100000 in
theorem k_Law_law_3 : jDec m_Law_law.2.1 t_Law_law_3 := by decide +kernel
def t_Law_law_4 : List (Nat × Instr × Nat) := [(347, .iconst 2, 1), (348, .iadd, 1), (349, .iaload, 1), (350, .aload_n 0, 1), (351, .iload 4, 2), (353, .iconst 3, 1), (354, .iadd, 1), (355, .iaload, 1), (356, .invokevirtual 102, 3), (359, .aload_n 2, 1), (360, .invokevirtual 84, 3), (363, .iload 5, 2), (365, .if_icmp .eq 5, 3), (368, .iconst 0, 1), (369, .ireturn, 1), (370, .goto 827, 3), (373, .aload_n 1, 1), (374, .aload_n 0, 1), (375, .iload 4, 2), (377, .iconst 1, 1), (378, .iadd, 1), (379, .iaload, 1), (380, .aload_n 0, 1), (381, .iload 4, 2), (383, .iconst 2, 1), (384, .iadd, 1), (385, .iaload, 1), (386, .aload_n 0, 1), (387, .iload 4, 2), (389, .iconst 3, 1), (390, .iadd, 1), (391, .iaload, 1), (392, .aload_n 0, 1), (393, .iload 4, 2), (395, .iconst 4, 1), (396, .iadd, 1), (397, .iaload, 1), (398, .invokestatic 103, 3), (401, .istore 5, 2), (403, .aload_n 2, 1)]
set_option maxRecDepth 100000 in
theorem k_Law_law_4 : jDec m_Law_law.2.1 t_Law_law_4 := by decide +kernel
def t_Law_law_5 : List (Nat × Instr × Nat) := [(404, .aload_n 0, 1), (405, .iload 4, 2), (407, .iconst 1, 1), (408, .iadd, 1), (409, .iaload, 1), (410, .aload_n 0, 1), (411, .iload 4, 2), (413, .iconst 2, 1), (414, .iadd, 1), (415, .iaload, 1), (416, .aload_n 0, 1), (417, .iload 4, 2), (419, .iconst 3, 1), (420, .iadd, 1), (421, .iaload, 1), (422, .aload_n 0, 1), (423, .iload 4, 2), (425, .iconst 4, 1), (426, .iadd, 1), (427, .iaload, 1), (428, .invokevirtual 106, 3), (431, .aload_n 2, 1), (432, .invokevirtual 84, 3), (435, .iload 5, 2), (437, .if_icmp .eq 5, 3), (440, .iconst 0, 1), (441, .ireturn, 1), (442, .goto 755, 3), (445, .aload_n 1, 1), (446, .aload_n 0, 1), (447, .iload 4, 2), (449, .iconst 1, 1), (450, .iadd, 1), (451, .iaload, 1), (452, .aload_n 0, 1), (453, .iload 4, 2), (455, .iconst 2, 1), (456, .iadd, 1), (457, .iaload, 1), (458, .aload_n 0, 1)]
set_option maxRecDepth 100000 in
theorem k_Law_law_5 : jDec m_Law_law.2.1 t_Law_law_5 := by decide +kernel
def t_Law_law_6 : List (Nat × Instr × Nat) := [(459, .iload 4, 2), (461, .iconst 3, 1), (462, .iadd, 1), (463, .iaload, 1), (464, .invokestatic 107, 3), (467, .istore 5, 2), (469, .aload_n 2, 1), (470, .aload_n 0, 1), (471, .iload 4, 2), (473, .iconst 1, 1), (474, .iadd, 1), (475, .iaload, 1), (476, .aload_n 0, 1), (477, .iload 4, 2), (479, .iconst 2, 1), (480, .iadd, 1), (481, .iaload, 1), (482, .aload_n 0, 1), (483, .iload 4, 2), (485, .iconst 3, 1), (486, .iadd, 1), (487, .iaload, 1), (488, .invokevirtual 109, 3), (491, .aload_n 2, 1), (492, .invokevirtual 84, 3), (495, .iload 5, 2), (497, .if_icmp .eq 5, 3), (500, .iconst 0, 1), (501, .ireturn, 1), (502, .goto 695, 3), (505, .aload_n 1, 1), (506, .aload_n 0, 1), (507, .iload 4, 2), (509, .iconst 1, 1), (510, .iadd, 1), (511, .iaload, 1), (512, .aload_n 0, 1), (513, .iload 4, 2), (515, .iconst 2, 1), (516, .iadd, 1)]
set_option maxRecDepth 100000 in
theorem k_Law_law_6 : jDec m_Law_law.2.1 t_Law_law_6 := by decide +kernel
def t_Law_law_7 : List (Nat × Instr × Nat) := [(517, .iaload, 1), (518, .invokestatic 110, 3), (521, .istore 5, 2), (523, .aload_n 2, 1), (524, .aload_n 0, 1), (525, .iload 4, 2), (527, .iconst 1, 1), (528, .iadd, 1), (529, .iaload, 1), (530, .aload_n 0, 1), (531, .iload 4, 2), (533, .iconst 2, 1), (534, .iadd, 1), (535, .iaload, 1), (536, .invokevirtual 113, 3), (539, .aload_n 2, 1), (540, .invokevirtual 84, 3), (543, .iload 5, 2), (545, .if_icmp .eq 5, 3), (548, .iconst 0, 1), (549, .ireturn, 1), (550, .goto 647, 3), (553, .aload_n 1, 1), (554, .aload_n 3, 1), (555, .invokestatic 114, 3), (558, .istore 5, 2), (560, .aload_n 2, 1), (561, .invokevirtual 117, 3), (564, .istore 6, 2), (566, .aload_n 2, 1), (567, .invokevirtual 84, 3), (570, .iload 5, 2), (572, .if_icmp .eq 5, 3), (575, .iconst 0, 1), (576, .ireturn, 1), (577, .iload 5, 2), (579, .ifCond .ne 15, 3), (582, .aload_n 3, 1), (583, .iconst 0, 1), (584, .laload, 1)]
set_option maxRecDepth 100000 in
theorem k_Law_law_7 : jDec m_Law_law.2.1 t_Law_law_7 := by decide +kernel
def t_Law_law_8 : List (Nat × Instr × Nat) := [(585, .iload 6, 2), (587, .i2l, 1), (588, .lcmp, 1), (589, .ifCond .eq 5, 3), (592, .iconst 0, 1), (593, .ireturn, 1), (594, .goto 603, 3), (597, .aload_n 1, 1), (598, .invokevirtual 118, 3), (601, .aload_n 2, 1), (602, .invokevirtual 121, 3), (605, .if_icmp .eq 592, 3), (608, .iconst 0, 1), (609, .ireturn, 1), (610, .aload_n 1, 1), (611, .aload_n 0, 1), (612, .iload 4, 2), (614, .iconst 1, 1), (615, .iadd, 1), (616, .iaload, 1), (617, .invokevirtual 122, 3), (620, .aload_n 2, 1), (621, .aload_n 0, 1), (622, .iload 4, 2), (624, .iconst 1, 1), (625, .iadd, 1), (626, .iaload, 1), (627, .invokevirtual 125, 3), (630, .if_icmp .eq 567, 3), (633, .iconst 0, 1), (634, .ireturn, 1), (635, .aload_n 1, 1), (636, .aload_n 0, 1), (637, .iload 4, 2), (639, .iconst 1, 1), (640, .iadd, 1), (641, .iaload, 1), (642, .aload_n 3, 1), (643, .invokestatic 126, 3), (646, .istore 5, 2)]
set_option maxRecDepth 100000 in
theorem k_Law_law_8 : jDec m_Law_law.2.1 t_Law_law_8 := by decide +kernel
def t_Law_law_9 : List (Nat × Instr × Nat) := [(648, .aload_n 2, 1), (649, .aload_n 0, 1), (650, .iload 4, 2), (652, .iconst 1, 1), (653, .iadd, 1), (654, .iaload, 1), (655, .invokevirtual 128, 3), (658, .istore 6, 2), (660, .aload_n 2, 1), (661, .invokevirtual 84, 3), (664, .iload 5, 2), (666, .if_icmp .eq 5, 3), (669, .iconst 0, 1), (670, .ireturn, 1), (671, .iload 5, 2), (673, .ifCond .ne 15, 3), (676, .aload_n 3, 1), (677, .iconst 0, 1), (678, .laload, 1), (679, .iload 6, 2), (681, .i2l, 1), (682, .lcmp, 1), (683, .ifCond .eq 5, 3), (686, .iconst 0, 1), (687, .ireturn, 1), (688, .goto 509, 3), (691, .aload_n 1, 1), (692, .aload_n 0, 1), (693, .iload 4, 2), (695, .iconst 1, 1), (696, .iadd, 1), (697, .iaload, 1), (698, .aload_n 0, 1), (699, .iload 4, 2), (701, .iconst 2, 1), (702, .iadd, 1), (703, .iaload, 1), (704, .aload_n 0, 1), (705, .iload 4, 2), (707, .iconst 3, 1)]
set_option maxRecDepth 100000 in
theorem k_Law_law_9 : jDec m_Law_law.2.1 t_Law_law_9 := by decide +kernel
def t_Law_law_10 : List (Nat × Instr × Nat) := [(708, .iadd, 1), (709, .iaload, 1), (710, .aload_n 3, 1), (711, .invokestatic 129, 3), (714, .istore 5, 2), (716, .aload_n 2, 1), (717, .aload_n 0, 1), (718, .iload 4, 2), (720, .iconst 1, 1), (721, .iadd, 1), (722, .iaload, 1), (723, .aload_n 0, 1), (724, .iload 4, 2), (726, .iconst 2, 1), (727, .iadd, 1), (728, .iaload, 1), (729, .aload_n 0, 1), (730, .iload 4, 2), (732, .iconst 3, 1), (733, .iadd, 1), (734, .iaload, 1), (735, .invokevirtual 132, 3), (738, .istore 6, 2), (740, .aload_n 2, 1), (741, .invokevirtual 84, 3), (744, .iload 5, 2), (746, .if_icmp .eq 5, 3), (749, .iconst 0, 1), (750, .ireturn, 1), (751, .iload 5, 2), (753, .ifCond .ne 15, 3), (756, .aload_n 3, 1), (757, .iconst 0, 1), (758, .laload, 1), (759, .iload 6, 2), (761, .i2l, 1), (762, .lcmp, 1), (763, .ifCond .eq 5, 3), (766, .iconst 0, 1), (767, .ireturn, 1)]
set_option maxRecDepth 100000 in
theorem k_Law_law_10 : jDec m_Law_law.2.1 t_Law_law_10 := by decide +kernel
def t_Law_law_11 : List (Nat × Instr × Nat) := [(768, .goto 429, 3), (771, .aload_n 1, 1), (772, .aload_n 0, 1), (773, .iload 4, 2), (775, .iconst 1, 1), (776, .iadd, 1), (777, .iaload, 1), (778, .aload_n 0, 1), (779, .iload 4, 2), (781, .iconst 2, 1), (782, .iadd, 1), (783, .iaload, 1), (784, .aload_n 0, 1), (785, .iload 4, 2), (787, .iconst 3, 1), (788, .iadd, 1), (789, .iaload, 1), (790, .aload_n 3, 1), (791, .invokestatic 133, 3), (794, .istore 5, 2), (796, .aload_n 2, 1), (797, .aload_n 0, 1), (798, .iload 4, 2), (800, .iconst 1, 1), (801, .iadd, 1), (802, .iaload, 1), (803, .aload_n 0, 1), (804, .iload 4, 2), (806, .iconst 2, 1), (807, .iadd, 1), (808, .iaload, 1), (809, .aload_n 0, 1), (810, .iload 4, 2), (812, .iconst 3, 1), (813, .iadd, 1), (814, .iaload, 1), (815, .invokevirtual 135, 3), (818, .istore 6, 2), (820, .aload_n 2, 1), (821, .invokevirtual 84, 3)]
set_option maxRecDepth 100000 in
theorem k_Law_law_11 : jDec m_Law_law.2.1 t_Law_law_11 := by decide +kernel
def t_Law_law_12 : List (Nat × Instr × Nat) := [(824, .iload 5, 2), (826, .if_icmp .eq 5, 3), (829, .iconst 0, 1), (830, .ireturn, 1), (831, .iload 5, 2), (833, .ifCond .ne 15, 3), (836, .aload_n 3, 1), (837, .iconst 0, 1), (838, .laload, 1), (839, .iload 6, 2), (841, .i2l, 1), (842, .lcmp, 1), (843, .ifCond .eq 5, 3), (846, .iconst 0, 1), (847, .ireturn, 1), (848, .goto 349, 3), (851, .aload_n 1, 1), (852, .aload_n 0, 1), (853, .iload 4, 2), (855, .iconst 1, 1), (856, .iadd, 1), (857, .iaload, 1), (858, .aload_n 0, 1), (859, .iload 4, 2), (861, .iconst 2, 1), (862, .iadd, 1), (863, .iaload, 1), (864, .aload_n 3, 1), (865, .invokestatic 136, 3), (868, .istore 5, 2), (870, .aload_n 2, 1), (871, .aload_n 0, 1), (872, .iload 4, 2), (874, .iconst 1, 1), (875, .iadd, 1), (876, .iaload, 1), (877, .aload_n 0, 1), (878, .iload 4, 2), (880, .iconst 2, 1), (881, .iadd, 1)]
set_option maxRecDepth 100000 in
theorem k_Law_law_12 : jDec m_Law_law.2.1 t_Law_law_12 := by decide +kernel
def t_Law_law_13 : List (Nat × Instr × Nat) := [(882, .iaload, 1), (883, .invokevirtual 138, 3), (886, .istore 6, 2), (888, .aload_n 2, 1), (889, .invokevirtual 84, 3), (892, .iload 5, 2), (894, .if_icmp .eq 5, 3), (897, .iconst 0, 1), (898, .ireturn, 1), (899, .iload 5, 2), (901, .ifCond .ne 15, 3), (904, .aload_n 3, 1), (905, .iconst 0, 1), (906, .laload, 1), (907, .iload 6, 2), (909, .i2l, 1), (910, .lcmp, 1), (911, .ifCond .eq 5, 3), (914, .iconst 0, 1), (915, .ireturn, 1), (916, .goto 281, 3), (919, .aload_n 1, 1), (920, .invokevirtual 139, 3), (923, .aload_n 2, 1), (924, .invokevirtual 142, 3), (927, .if_icmp .eq 270, 3), (930, .iconst 0, 1), (931, .ireturn, 1), (932, .aload_n 1, 1), (933, .aload_n 0, 1), (934, .iload 4, 2), (936, .iconst 1, 1), (937, .iadd, 1), (938, .iaload, 1), (939, .aload_n 3, 1), (940, .invokestatic 143, 3), (943, .istore 5, 2), (945, .aload_n 2, 1), (946, .aload_n 0, 1), (947, .iload 4, 2)]
set_option maxRecDepth 100000 in
theorem k_Law_law_13 : jDec m_Law_law.2.1 t_Law_law_13 := by decide +kernel
def t_Law_law_14 : List (Nat × Instr × Nat) := [(949, .iconst 1, 1), (950, .iadd, 1), (951, .iaload, 1), (952, .invokevirtual 145, 3), (955, .istore 6, 2), (957, .aload_n 2, 1), (958, .invokevirtual 84, 3), (961, .iload 5, 2), (963, .if_icmp .eq 5, 3), (966, .iconst 0, 1), (967, .ireturn, 1), (968, .iload 5, 2), (970, .ifCond .ne 15, 3), (973, .aload_n 3, 1), (974, .iconst 0, 1), (975, .laload, 1), (976, .iload 6, 2), (978, .i2l, 1), (979, .lcmp, 1), (980, .ifCond .eq 5, 3), (983, .iconst 0, 1), (984, .ireturn, 1), (985, .goto 212, 3), (988, .aload_n 1, 1), (989, .aload_n 0, 1), (990, .iload 4, 2), (992, .iconst 1, 1), (993, .iadd, 1), (994, .iaload, 1), (995, .aload_n 3, 1), (996, .invokestatic 146, 3), (999, .istore 5, 2), (1001, .aload_n 2, 1), (1002, .aload_n 0, 1), (1003, .iload 4, 2), (1005, .iconst 1, 1), (1006, .iadd, 1), (1007, .iaload, 1), (1008, .invokevirtual 148, 3), (1011, .istore 6, 2)]
set_option maxRecDepth 100000 in
theorem k_Law_law_14 : jDec m_Law_law.2.1 t_Law_law_14 := by decide +kernel
def t_Law_law_15 : List (Nat × Instr × Nat) := [(1013, .aload_n 2, 1), (1014, .invokevirtual 84, 3), (1017, .iload 5, 2), (1019, .if_icmp .eq 5, 3), (1022, .iconst 0, 1), (1023, .ireturn, 1), (1024, .iload 5, 2), (1026, .ifCond .ne 15, 3), (1029, .aload_n 3, 1), (1030, .iconst 0, 1), (1031, .laload, 1), (1032, .iload 6, 2), (1034, .i2l, 1), (1035, .lcmp, 1), (1036, .ifCond .eq 5, 3), (1039, .iconst 0, 1), (1040, .ireturn, 1), (1041, .goto 156, 3), (1044, .aload_n 1, 1), (1045, .invokevirtual 149, 3), (1048, .aload_n 2, 1), (1049, .invokevirtual 152, 3), (1052, .if_icmp .eq 145, 3), (1055, .iconst 0, 1), (1056, .ireturn, 1), (1057, .aload_n 1, 1), (1058, .aload_n 0, 1), (1059, .iload 4, 2), (1061, .iconst 1, 1), (1062, .iadd, 1), (1063, .iaload, 1), (1064, .aload_n 3, 1), (1065, .invokestatic 153, 3), (1068, .istore 5, 2), (1070, .aload_n 2, 1), (1071, .aload_n 0, 1), (1072, .iload 4, 2), (1074, .iconst 1, 1), (1075, .iadd, 1), (1076, .iaload, 1)]
set_option maxRecDepth 100000 in
theorem k_Law_law_15 : jDec m_Law_law.2.1 t_Law_law_15 := by decide +kernel
def t_Law_law_16 : List (Nat × Instr × Nat) := [(1077, .invokevirtual 155, 3), (1080, .istore 6, 2), (1082, .aload_n 2, 1), (1083, .invokevirtual 84, 3), (1086, .iload 5, 2), (1088, .if_icmp .eq 5, 3), (1091, .iconst 0, 1), (1092, .ireturn, 1), (1093, .iload 5, 2), (1095, .ifCond .ne 15, 3), (1098, .aload_n 3, 1), (1099, .iconst 0, 1), (1100, .laload, 1), (1101, .iload 6, 2), (1103, .i2l, 1), (1104, .lcmp, 1), (1105, .ifCond .eq 5, 3), (1108, .iconst 0, 1), (1109, .ireturn, 1), (1110, .goto 87, 3), (1113, .aload_n 1, 1), (1114, .invokestatic 156, 3), (1117, .istore 5, 2), (1119, .aload_n 2, 1), (1120, .invokevirtual 159, 3), (1123, .aload_n 2, 1), (1124, .invokevirtual 84, 3), (1127, .iload 5, 2), (1129, .if_icmp .eq 5, 3), (1132, .iconst 0, 1), (1133, .ireturn, 1), (1134, .goto 63, 3), (1137, .aload_n 1, 1), (1138, .aload_n 0, 1), (1139, .iload 4, 2), (1141, .iconst 1, 1), (1142, .iadd, 1), (1143, .iaload, 1), (1144, .aload_n 0, 1), (1145, .iload 4, 2)]
set_option maxRecDepth 100000 in
theorem k_Law_law_16 : jDec m_Law_law.2.1 t_Law_law_16 := by decide +kernel
def t_Law_law_17 : List (Nat × Instr × Nat) := [(1147, .iconst 2, 1), (1148, .iadd, 1), (1149, .iaload, 1), (1150, .aload_n 0, 1), (1151, .iload 4, 2), (1153, .iconst 3, 1), (1154, .iadd, 1), (1155, .iaload, 1), (1156, .invokestatic 160, 3), (1159, .istore 5, 2), (1161, .aload_n 2, 1), (1162, .aload_n 0, 1), (1163, .iload 4, 2), (1165, .iconst 1, 1), (1166, .iadd, 1), (1167, .iaload, 1), (1168, .aload_n 0, 1), (1169, .iload 4, 2), (1171, .iconst 2, 1), (1172, .iadd, 1), (1173, .iaload, 1), (1174, .aload_n 0, 1), (1175, .iload 4, 2), (1177, .iconst 3, 1), (1178, .iadd, 1), (1179, .iaload, 1), (1180, .invokevirtual 162, 3), (1183, .aload_n 2, 1), (1184, .invokevirtual 84, 3), (1187, .iload 5, 2), (1189, .if_icmp .eq 5, 3), (1192, .iconst 0, 1), (1193, .ireturn, 1), (1194, .goto 3, 3), (1197, .iinc 4 5, 3), (1200, .goto (-1177), 3), (1203, .iconst 1, 1), (1204, .ireturn, 1)]
set_option maxRecDepth 100000 in
theorem k_Law_law_17 : jDec m_Law_law.2.1 t_Law_law_17 := by decide +kernel
end
section
def jAOA (ty : FieldType) (U : State) : Prop := (Cond.arrayOver (.array ty)).before #[] U = true
theorem jAOA.use {ty : FieldType} {A : Array Value} {U : State} (h : jAOA ty U) : (Cond.arrayOver (.array ty)).before A U = true := h
/-! ===== BEGIN new T[n][m]: the outer array a place, the inner ones among the pooled ===== -/
/-- f, but v at every address of l -/
def vr_up {α : Type} (f : Nat → α) (l : List Nat) (v : α) : Nat → α := fun a => if a ∈ l then v else f a
theorem vr_up_in {α : Type} {f : Nat → α} {l : List Nat} {v : α} {a : Nat} (h : a ∈ l) : vr_up f l v a = v := if_pos h
theorem vr_up_ne {α : Type} {f : Nat → α} {l : List Nat} {v : α} {a : Nat} (h : a ∉ l) : vr_up f l v a = f a := if_neg h
theorem vr_rows {L l : List Nat} {f : Nat → va_E} {e : va_E} (h : ∀ a, a ∈ l → a ∉ L) : va_pl L f ++ l.map (fun a => (a, e)) = va_pl (L ++ l) (vr_up f l e) := by
  unfold va_pl
  rw [List.map_append]
  congr 1
  · apply List.map_congr_left
    intro a ha
    rw [vr_up_ne (fun q => h a q ha)]
  · apply List.map_congr_left
    intro a ha
    rw [vr_up_in ha]
theorem vr_lay {X rows : va_W} {x : Nat × va_E} {pl : va_W} {D : va_G} {cl : List vw_C} {H : Heap} (hP : va_P D cl (((X ++ pl) ++ [x]) ++ rows) H) : va_P D cl ((X ++ [x]) ++ (pl ++ rows)) H := by
  rw [List.append_assoc (X ++ pl)] at hP
  have h := va_P.swap hP
  rw [← List.append_assoc X] at h
  have h2 := va_P.swap h
  rw [List.append_assoc (X ++ [x])] at h2
  exact h2
theorem vr_layD {X rows : va_W} {x : Nat × va_E} {pl : va_W} {A : Nat → Prop} (hD : va_D A (((X ++ pl) ++ [x]) ++ rows)) : va_D A ((X ++ [x]) ++ (pl ++ rows)) := by
  rw [List.append_assoc (X ++ pl)] at hD
  have h := va_D.swap hD
  rw [← List.append_assoc X] at h
  have h2 := va_D.swap h
  rw [List.append_assoc (X ++ [x])] at h2
  exact h2
theorem vr_outer (c : ClassId) (N h0 : Nat) : ∀ i : Nat, Jvm.Free.Multi.outerC c N h0 i = arrV c N (fun j => va_rf (if j < i then some (h0 + 1 + j) else none))
  | 0 => by
    show ({ cls := c, slots := Array.replicate N .null, vm := .none } : Cell) = _
    rw [arrV_new]
    refine congrArg (arrV c N) (funext fun j => ?_)
    simp [va_rf]
  | i + 1 => by
    show (Jvm.Free.Multi.outerC c N h0 i).setSlot i (.ref (h0 + 1 + i)) = _
    rw [vr_outer c N h0 i, arrV_store]
    refine congrArg (arrV c N) (funext fun j => ?_)
    by_cases e : j = i
    · subst e
      simp [updV, va_rf]
    · by_cases h : j < i
      · simp [updV, e, h, Nat.lt_succ_of_lt h]
      · simp [updV, e, h, show ¬ j < i + 1 by omega]
section VGM
variable {p : Program} {l : Launch} {e : Env} {R : Room} {s : State} {m : MethodId} {args : Array Value} {below : List Frame} {meth : Method} {c : Code} {H : Heap} {locs : List Loc} {cells slots : Nat} {Q : State → Prop}
variable {cc : ByteArray} {pc : Nat} {ls : Array Slot} {rest : List Value} {D : va_G} {cl : List vw_C} {A : Nat → Prop} {a : Nat} {tys : List (ClassId × FieldType)} {ws : va_W} {H0 : Heap}
theorem va_mna {X : va_W} {L : List Nat} {f : Nat → va_E} {cc : ByteArray} (hexec : p.tables.exec = Jvm.exec) (hb : c.code = cc) {own : String} {index : Nat} {ty : FieldType} {cy : ClassId} (hown : s.vm.findClass own = some m.cls) (hclink : (Cond.classLink own index ("[" ++ (FieldType.array ty).toString)).before args s = true) (hover : jAOA ty s) (harr : (Cond.arrayClass ty).before args s = true) (hcy : s.vm.findClass (FieldType.array ty).toString = some cy)
    (hK : va_K D cl tys s) (hP : va_P D cl (X ++ va_pl L f) H) (hD : va_D A (X ++ va_pl L f)) (hS : va_S A H0 H locs) (hA : ∀ q, H0.size ≤ q → A q) {n k : Int32} {N' K' : Nat} {z : vp_A} (hn : ¬ n < 0) (hk : ¬ k < 0) (hN : n.toNatClampNeg = N') (hM : k.toNatClampNeg = K')
    (hb1 : N' * 4 ≤ 536870912) (hb2 : K' * componentBytes ty ≤ 536870912) (hb3 : K' ≤ 536870912) (hdf : fits ty (defaultValue ty) = true) (hdd : (defaultValue ty).isDefault = true) (hcells : cells + (1 + N') ≤ R.cells) (hslots : slots + (N' + N' * K') ≤ R.slots) (hz : ∀ c : ClassId, Jvm.Free.Multi.innerC c K' (defaultValue ty) = vp_cell c z) (hdg : decode cc pc = .ok (.multianewarray index 2, 4))
    (kk : ∀ (q : Nat) (r : Nat → Nat) (cA : ClassId) (H1 : Heap), (∀ i j : Nat, i < N' → j < N' → r i = r j → i = j) → (∀ i : Nat, i < N' → r i ∉ L) → va_K D cl (tys ++ [(cA, .array ty)]) s →
      va_P D cl ((X ++ [(q, .inl (cA, N', .inr (.inr (.inr (.inr (fun i => if i < N' then some (r i) else none))))))]) ++ va_pl (L ++ (List.range N').map r) (vr_up f ((List.range N').map r) (.inl (cy, z)))) H1 → va_D A ((X ++ [(q, .inl (cA, N', .inr (.inr (.inr (.inr (fun i => if i < N' then some (r i) else none))))))]) ++ va_pl (L ++ (List.range N').map r) (vr_up f ((List.range N').map r) (.inl (cy, z)))) → va_S A H0 H1 locs →
      W p l e R s m args below meth c H1 locs (cells + 1 + N') (slots + N' + N' * K') Q (F0 m (pc + 4) ls (.ref q :: rest))) : W p l e R s m args below meth c H locs cells slots Q (F0 m pc ls (.int k :: .int n :: rest)) := by
  subst hN
  subst hM
  intro T hT Xs
  obtain ⟨vm₁, cA, comp, -, fA, fC, hO, -, X', step⟩ := Xs.multianewarray2F hexec hown hclink (jAOA.use hover) harr (g := F0 m pc ls (.int k :: .int n :: rest)) rfl (by rw [hb]; exact hdg) rfl hn hk hb1 hb2 hb3 hdf hdd hcells hslots
  have ec : some cy = some comp := hcy.symm.trans fC
  cases ec
  generalize hF : Jvm.Free.Multi.fill (T.setVm vm₁) cA cy n.toNatClampNeg k.toNatClampNeg (defaultValue ty) n.toNatClampNeg = F at X' step
  have hTh : (T.setVm vm₁).heap = H := hT
  obtain ⟨f1, f2, -, -⟩ := Jvm.Free.Multi.fill_facts (T.setVm vm₁) cA cy n.toNatClampNeg k.toNatClampNeg (defaultValue ty) n.toNatClampNeg
  rw [hF, hTh] at f1 f2
  have hold : ∀ x : Nat, x < H.size → F.heap[x]? = H[x]? := fun x hx => by
    have := Jvm.Free.Multi.fill_old (T.setVm vm₁) cA cy n.toNatClampNeg k.toNatClampNeg (defaultValue ty) (a := x) (by rw [hTh]; exact hx) n.toNatClampNeg
    rw [hF, hTh] at this
    exact this
  have hrow : ∀ j : Nat, j < n.toNatClampNeg → F.heap[H.size + 1 + j]? = some (vp_cell cy z) := fun j hj => by
    have := Jvm.Free.Multi.fill_inner (T.setVm vm₁) cA cy n.toNatClampNeg k.toNatClampNeg (defaultValue ty) n.toNatClampNeg j hj
    rw [hF, hTh, hz] at this
    exact this
  have hout : Jvm.Free.Multi.outerC cA n.toNatClampNeg H.size n.toNatClampNeg = vp_cell cA (n.toNatClampNeg, .inr (.inr (.inr (.inr (fun i => if i < n.toNatClampNeg then some (H.size + 1 + i) else none))))) := by
    rw [vp_cell_q]
    exact vr_outer cA n.toNatClampNeg H.size n.toNatClampNeg
  rw [hout] at f2
  have hlt : ∀ a, a ∈ L → a < H.size := fun a ha => by
    obtain ⟨k9, hk9⟩ := va_pl_get (X := X) (f := f) ha
    exact (hP k9 _ hk9).lt
  have hnl : ∀ i : Nat, i < n.toNatClampNeg → H.size + 1 + i ∉ L := fun i _ h => by
    have := hlt _ h
    omega
  have hnm : ∀ a, a ∈ (List.range n.toNatClampNeg).map (fun i => H.size + 1 + i) → a ∉ L := fun a ha h => by
    obtain ⟨i, -, rfl⟩ := List.mem_map.mp ha
    have := hlt _ h
    omega
  have hP0 : va_P D cl (X ++ va_pl L f) F.heap := hP.kept (fun k9 x hx => hold x.1 ((hP k9 x hx).lt))
  have hP1 : va_P D cl ((X ++ va_pl L f) ++ [(H.size, .inl (cA, n.toNatClampNeg, .inr (.inr (.inr (.inr (fun i => if i < n.toNatClampNeg then some (H.size + 1 + i) else none))))))]) F.heap := hP0.app (fun k9 x hx => by
    have h0 : k9 < 1 := (List.getElem?_eq_some_iff.mp hx).1
    rw [show k9 = 0 by omega] at hx
    cases hx
    exact f2)
  have hP2 : va_P D cl (((X ++ va_pl L f) ++ [(H.size, .inl (cA, n.toNatClampNeg, .inr (.inr (.inr (.inr (fun i => if i < n.toNatClampNeg then some (H.size + 1 + i) else none))))))]) ++ ((List.range n.toNatClampNeg).map (fun i => H.size + 1 + i)).map (fun a => (a, .inl (cy, z)))) F.heap := hP1.app (fun k9 x hx => by
    obtain ⟨a, ha, rfl⟩ := List.mem_map.mp (List.mem_of_getElem? hx)
    obtain ⟨i, hi, rfl⟩ := List.mem_map.mp ha
    exact hrow i (List.mem_range.mp hi))
  have hD2 : va_D A (((X ++ va_pl L f) ++ [(H.size, .inl (cA, n.toNatClampNeg, .inr (.inr (.inr (.inr (fun i => if i < n.toNatClampNeg then some (H.size + 1 + i) else none))))))]) ++ ((List.range n.toNatClampNeg).map (fun i => H.size + 1 + i)).map (fun a => (a, .inl (cy, z)))) := by
    have hD1 := hD.push (e := .inl (cA, n.toNatClampNeg, .inr (.inr (.inr (.inr (fun i => if i < n.toNatClampNeg then some (H.size + 1 + i) else none)))))) hP rfl (hA _ hS.1)
    generalize hW1 : (X ++ va_pl L f) ++ [(H.size, .inl (cA, n.toNatClampNeg, .inr (.inr (.inr (.inr (fun i => if i < n.toNatClampNeg then some (H.size + 1 + i) else none))))))] = W1 at hD1 hP1 ⊢
    have hle : ∀ (k9 : Nat) (x : Nat × va_E), W1[k9]? = some x → x.1 ≤ H.size := fun k9 x hx => by
      rw [← hW1] at hx
      by_cases hl : k9 < (X ++ va_pl L f).length
      · rw [List.getElem?_append_left hl] at hx
        exact Nat.le_of_lt ((hP k9 x hx).lt)
      · rw [List.getElem?_append_right (by omega)] at hx
        have h0 : k9 - (X ++ va_pl L f).length < 1 := (List.getElem?_eq_some_iff.mp hx).1
        rw [show k9 - (X ++ va_pl L f).length = 0 by omega] at hx
        cases hx
        exact Nat.le_refl _
    have hr : ∀ (k9 : Nat) (x : Nat × va_E), (((List.range n.toNatClampNeg).map (fun i => H.size + 1 + i)).map (fun a => ((a, .inl (cy, z)) : Nat × va_E)))[k9]? = some x → x.1 = H.size + 1 + k9 := fun k9 x hx => by
      rw [List.getElem?_map, List.getElem?_map] at hx
      by_cases h9 : k9 < n.toNatClampNeg
      · rw [List.getElem?_range h9] at hx
        cases hx
        rfl
      · have hn0 : (List.range n.toNatClampNeg)[k9]? = none := List.getElem?_eq_none (by rw [List.length_range]; omega)
        rw [hn0] at hx
        cases hx
    refine ⟨fun i j x y hi hj hxy => ?_, fun k9 x hx => ?_⟩
    · by_cases h1 : i < W1.length <;> by_cases h2 : j < W1.length
      · rw [List.getElem?_append_left h1] at hi
        rw [List.getElem?_append_left h2] at hj
        exact hD1.1 i j x y hi hj hxy
      · rw [List.getElem?_append_left h1] at hi
        rw [List.getElem?_append_right (by omega)] at hj
        have := hle _ _ hi
        have := hr _ _ hj
        omega
      · rw [List.getElem?_append_right (by omega)] at hi
        rw [List.getElem?_append_left h2] at hj
        have := hle _ _ hj
        have := hr _ _ hi
        omega
      · rw [List.getElem?_append_right (by omega)] at hi hj
        have := hr _ _ hi
        have := hr _ _ hj
        omega
    · by_cases h1 : k9 < W1.length
      · rw [List.getElem?_append_left h1] at hx
        exact hD1.2 k9 x hx
      · rw [List.getElem?_append_right (by omega)] at hx
        have := hr _ _ hx
        exact hA _ (by have := hS.1; omega)
  have hAr : ArrOfT s cA (.array ty) := fun N9 z9 => by
    obtain ⟨-, k9, hk9, cm9, hkk9⟩ := (hO 0 0 0).1
    exact ⟨(fun q hq => by cases hq), k9, hk9, cm9, hkk9⟩
  have hK2 : va_K D cl (tys ++ [(cA, .array ty)]) s := ⟨hK.1, fun k9 x hx => by
    by_cases hl : k9 < tys.length
    · rw [List.getElem?_append_left hl] at hx
      exact hK.2 k9 x hx
    · rw [List.getElem?_append_right (by omega)] at hx
      have h0 : k9 - tys.length < 1 := (List.getElem?_eq_some_iff.mp hx).1
      rw [show k9 - tys.length = 0 by omega] at hx
      cases hx
      exact ⟨hAr, fA⟩⟩
  obtain ⟨t, a1, b1⟩ := kk H.size (fun i => H.size + 1 + i) cA F.heap (fun i j _ _ h => by have h9 : H.size + 1 + i = H.size + 1 + j := h; omega) hnl hK2 (by rw [← vr_rows hnm]; exact vr_lay hP2) (by rw [← vr_rows hnm]; exact vr_layD hD2) ⟨by rw [f1]; have := hS.1; omega, fun x h1 h2 => (hold x (Nat.lt_of_lt_of_le h1 hS.1)).trans (hS.2.1 x h1 h2), hS.2.2⟩ F rfl X'
  refine ⟨t, step t ?_, b1⟩
  have e : T.heap.size = H.size := by rw [hT]
  rw [e]
  exact a1
end VGM
/-! ===== END ===== -/
end
section
/-! ===== both ends of a method: it answers, or it throws ===== -/
def jFE (first t : State) (L : List Loc) (k n : Nat) : Prop := first.WarmedH t.vm ∧ first.sameButNew ({ t with vm := first.vm } : State) L k n
def jMet (l : Launch) (y : MethodName) (ws : List Cond) (rm : Room) (Pc : Array Value → State → Prop) (Qc : Array Value → State → Outcome → State → Prop) (mc ms : Nat) (free : Addr → Prop) : Prop :=
  MetFree l y (headSpec ws rm) Pc (fun _ _ _ _ _ => True) (fun a st o t => Qc a st o t ∧ ∃ L, jFE st t L mc ms ∧ ∀ q ∈ L, free q.base)
def jMQ (below : List Frame) (Qc : Array Value → State → Outcome → State → Prop) (a : Array Value) (s : State) (mc ms : Nat) (free : Addr → Prop) : State → Prop := fun t =>
  ∃ o, t.status = .running ∧ Ended t below o ∧ Qc a s o t ∧ ∃ L, jFE s t L mc ms ∧ ∀ q ∈ L, free q.base
/-! ===== the judgement J: from here the method ends, as P says ===== -/
def jTabS : Nat → Int32 := fun j => ([1779033703, -1150833019, 1013904242, -1521486534, 1359893119, -1694144372, 528734635, 1541459225] : List Int32).getD j 0
def jTabK : Nat → Int32 := fun j => ([1116352408, 1899447441, -1245643825, -373957723, 961987163, 1508970993, -1841331548, -1424204075, -670586216, 310598401, 607225278, 1426881987, 1925078388, -2132889090, -1680079193, -1046744716, -459576895, -272742522, 264347078, 604807628, 770255983, 1249150122, 1555081692, 1996064986, -1740746414, -1473132947, -1341970488, -1084653625, -958395405, -710438585, 113926993, 338241895, 666307205, 773529912, 1294757372, 1396182291, 1695183700, 1986661051, -2117940946, -1838011259, -1564481375, -1474664885, -1035236496, -949202525, -778901479, -694614492, -200395387, 275423344, 430227734, 506948616, 659060556, 883997877, 958139571, 1322822218, 1537002063, 1747873779, 1955562222, 2024104815, -2067236844, -1933114872, -1866530822, -1538233109, -1090935817, -965641998] : List Int32).getD j 0
/-- room: d calls may nest, mc cells of ms slots may be made -/
def jrm (d mc ms : Nat) : Room := { frames := d + 2, cells := mc, slots := ms, locals := 31 * d + 60 }
/-- the numbers of array classes; the addresses of arrays that were there before (two tables, the script); the script's length and ints -/
abbrev jG : Type := (Nat → ClassId) × (Nat → Nat) × Nat × (Nat → Int32)
def jT (G : jG) : List (ClassId × FieldType) := [(G.1 0, .int), (G.1 1, .byte), (G.1 2, .long), (G.1 3, .object "SharingRoom$Field"), (G.1 4, .object "SharingRoom$Group"), (G.1 5, .object "SharingRoom$Party"), (G.1 6, .array .int)]
abbrev jR : Type := Option Value ⊕ String
def jOut (o : Outcome) (r : jR) (t : State) : Prop := match r with
  | .inl v => o = .returned v
  | .inr E => ∃ (x : Addr) (cell : Cell), o = .threw x ∧ t.heap[x]? = some cell ∧ cell.vm = .none ∧ t.vm.findClass E = some cell.cls
def jPost (P : jR → va_W → Prop) (D : va_G) (A : Nat → Prop) : Array Value → State → Outcome → State → Prop := fun _ st o t =>
  (∃ (r : jR) (ws : va_W), jOut o r t ∧ P r ws ∧ va_P D vwCl ws t.heap ∧ va_D A ws) ∧ va_F A st t
/-- the tables' words held where the law began, and the tables have only become warmer -/
def jW0 (U : State) : Prop := ∃ (s0 : State) (a0 : Array Value), (∀ w ∈ lw_tbl, w.before a0 s0 = true) ∧ s0.WarmedH U.vm
theorem jW0.moved {u U : State} (hW : u.WarmedH U.vm) (h : jW0 u) : jW0 U := by
  obtain ⟨s0, a0, h1, h2⟩ := h
  exact ⟨s0, a0, h1, State.WarmedH.trans h2 hW⟩
def jK (G : jG) (D : va_G) (U : State) : Prop := va_K D vwCl (jT G) U ∧ jW0 U
theorem jK.moved {G : jG} {D : va_G} {u U : State} (hW : u.WarmedH U.vm) (h : jK G D u) : jK G D U := ⟨va_K.moved hW.alike h.1, h.2.moved hW⟩
def jXs (G : jG) : List (Nat × Nat × (Nat → Int32)) := [(G.2.1 0, 8, jTabS), (G.2.1 1, 64, jTabK), (G.2.1 2, G.2.2.1, G.2.2.2)]
def jSha : String := "SharingRoom$Sha256"
/-- a static field that holds a reference or null, as the tables lay it; its cell is none that may be written -/
def jSt (C n d : String) (A : Nat → Prop) (U : State) (H : Heap) : Prop := ∃ (c : ClassId) (k : Class) (i : Nat) (f : Field) (a : Nat) (cell : Cell) (v : Value), U.fieldFound? C n d = some (c, k, i, f) ∧ U.vm.findClass C = some c ∧ k.statics = some a ∧ k.staticTypes[f.slot]? = some f.type ∧ f.isStatic = true ∧ H[a]? = some cell ∧ cell.vm.isStatics = true ∧ cell.cls = c ∧ f.slot < cell.slots.size ∧ cell.slots[f.slot]? = some v ∧ v.isRef = true ∧ ¬ A a
theorem jSt.moved {C n d : String} {A : Nat → Prop} {u U : State} {H : Heap} (hvm : u.vm.Alike U.vm) (h : jSt C n d A u H) : jSt C n d A U H := by
  obtain ⟨c, k, i, f, a, cell, v, h1, h2, h3, h4, h5⟩ := h
  obtain ⟨k', hi', he⟩ := State.fieldFound?_setVm hvm h1
  exact ⟨c, k', i, f, a, cell, v, hi', by rw [hvm.findClass]; exact h2, by rw [he]; exact h3, by rw [he]; exact h4, h5⟩
theorem jSt.kept {C n d : String} {A : Nat → Prop} {U : State} {H H1 : Heap} (h : jSt C n d A U H) (hq : ∀ a : Nat, a < H.size → ¬ A a → H1[a]? = H[a]?) : jSt C n d A U H1 := by
  obtain ⟨c, k, i, f, a, cell, v, h1, h2, h3, h4, h5, h6, h7, h8, h9, h10, h11, h12⟩ := h
  exact ⟨c, k, i, f, a, cell, v, h1, h2, h3, h4, h5, by rw [hq a (Array.getElem?_eq_some_iff.mp h6).1 h12]; exact h6, h7, h8, h9, h10, h11, h12⟩
theorem jSt.narrow {C n d : String} {A B : Nat → Prop} {U : State} {H : Heap} (h : jSt C n d A U H) (hAB : ∀ q, B q → A q) : jSt C n d B U H := by
  obtain ⟨c, k, i, f, a, cell, v, h1, h2, h3, h4, h5, h6, h7, h8, h9, h10, h11, h12⟩ := h
  exact ⟨c, k, i, f, a, cell, v, h1, h2, h3, h4, h5, h6, h7, h8, h9, h10, h11, fun z => h12 (hAB a z)⟩
theorem jSt.lays {C n d : String} {A : Nat → Prop} {U : State} {a0 : Array Value} (h : jSt C n d A U U.heap) : (Cond.laysStatic C n d).before a0 U = true := by
  obtain ⟨c, k, i, f, a, cell, v, h1, h2, h3, h4, h5, h6, h7, h8, h9, h10, h11, h12⟩ := h
  simp [Cond.before, Cond.holds, Cond.value, h1, h2, h3, h4, h5, h6, h7, h8, h9]
theorem jSt.ref {C n d : String} {A : Nat → Prop} {U : State} {a0 : Array Value} (h : jSt C n d A U U.heap) : (Cond.isRef (.static C n d)).before a0 U = true := by
  obtain ⟨c, k, i, f, a, cell, v, h1, h2, h3, h4, h5, h6, h7, h8, h9, h10, h11, h12⟩ := h
  have e : (Term.static C n d).eval a0 U none [] U = some v := Term.static_eval h1 h5 h3 h6 h7 h10
  cases v with
  | ref x => simp [Cond.before, Cond.holds, Cond.value, e]
  | null => simp [Cond.before, Cond.holds, Cond.value, e]
  | _ => cases h11
def jTh (A : Nat → Prop) (U : State) (H : Heap) : Prop := jSt Bundle.tN "UNASSIGNED_STACK" Bundle.steD A U H ∧ jSt Bundle.tN "SUPPRESSED_SENTINEL" Bundle.listD A U H ∧ va_Nc "java/lang/IllegalStateException" "java/lang/IllegalArgumentException" U ∧ va_Nc "java/lang/IllegalArgumentException" "java/lang/IllegalStateException" U
def jZ (G : jG) (A : Nat → Prop) (U : State) (H : Heap) : Prop :=
  (∀ (i : Nat) (q : Nat × Nat × (Nat → Int32)), (jXs G)[i]? = some q → va_X q.1 q.2.1 q.2.2 U H ∧ q.1 < H.size ∧ ¬ A q.1) ∧ va_Z jSha "START" "[I" (.ref (G.2.1 0)) A U H ∧ va_Z jSha "ROUND_CONSTANTS" "[I" (.ref (G.2.1 1)) A U H ∧ jTh A U H
theorem jZ.moved {G : jG} {A : Nat → Prop} {u U : State} {H : Heap} (hvm : u.vm.Alike U.vm) (h : jZ G A u H) : jZ G A U H := by
  obtain ⟨h1, h2, h3, h4, h5, h6, h7⟩ := h
  exact ⟨fun i q hq => ⟨va_X.moved hvm (h1 i q hq).1, (h1 i q hq).2⟩, va_Z.moved hvm h2, va_Z.moved hvm h3, jSt.moved hvm h4, jSt.moved hvm h5, h6.moved hvm, h7.moved hvm⟩
theorem jZ.kept {G : jG} {A : Nat → Prop} {U : State} {H H1 : Heap} (h : jZ G A U H) (hs : H.size ≤ H1.size) (hq : ∀ a : Nat, a < H.size → ¬ A a → H1[a]? = H[a]?) : jZ G A U H1 := by
  obtain ⟨h1, h2, h3, h4, h5, h6, h7⟩ := h
  exact ⟨fun i q hi => ⟨va_X.kept (h1 i q hi).1 (hq _ (h1 i q hi).2.1 (h1 i q hi).2.2), Nat.lt_of_lt_of_le (h1 i q hi).2.1 hs, (h1 i q hi).2.2⟩, va_Z.kept h2 hq, va_Z.kept h3 hq, jSt.kept h4 hq, jSt.kept h5 hq, h6, h7⟩
theorem jZ.narrow {G : jG} {A B : Nat → Prop} {U : State} {H : Heap} (hAB : ∀ q, B q → A q) (h : jZ G A U H) : jZ G B U H := by
  obtain ⟨h1, h2, h3, h4, h5, h6, h7⟩ := h
  exact ⟨fun i q hi => ⟨(h1 i q hi).1, (h1 i q hi).2.1, fun hB => (h1 i q hi).2.2 (hAB _ hB)⟩, va_Z.narrow h2 hAB, va_Z.narrow h3 hAB, jSt.narrow h4 hAB, jSt.narrow h5 hAB, h6, h7⟩
def jC (G : jG) (M : jM) (p : Program) (l : Launch) (s : State) (m : MethodId) (args : Array Value) (meth : Method) (c : Code) (D : va_G) (A : Nat → Prop) : Prop :=
  p.tables.exec = Jvm.exec ∧ c.code = M.2.1 ∧ c.maxLocals = M.2.2.1 ∧ s.vm.findClass M.1 = some m.cls ∧ (∀ w ∈ jWS, w.before args s = true) ∧ jK G D s ∧ jZ G A s s.heap ∧ (∀ q, s.heap.size ≤ q → A q) ∧ meth.locks = false ∧ meth.sig.returnType = M.2.2.2.1 ∧ meth.name = M.2.2.2.2.1 ∧ c.exceptionTable.toList.map (fun h => (h.startPc, h.endPc, h.handlerPc, h.catchType)) = M.2.2.2.2.2 ∧ l.stackTraces = false ∧ (∀ q, A q → ∀ cell : Cell, s.heap[q]? = some cell → cell.vm.isStatics = false)
def J (G : jG) (M : jM) (d mc ms : Nat) (P : jR → va_W → Prop) (pc : Nat) (lv : List (Nat × Value)) (st : List Value) (ws : va_W) (k n : Nat) : Prop :=
  ∀ (p : Program) (l : Launch) (e : Env) (s : State) (m : MethodId) (args : Array Value) (below : List Frame) (meth : Method) (c : Code) (D : va_G) (A : Nat → Prop), jC G M p l s m args meth c D A →
    ∀ (H : Heap) (locs : List Loc) (ls : Array Slot), va_P D vwCl ws H → va_D A ws → va_S A s.heap H locs → lv_has ls M.2.2.1 lv →
      W p l e (jrm d mc ms) s m args below meth c H locs k n (jMQ below (jPost P D A) args s mc ms A) (F0 m pc ls st)
def jrem (x y : Int32) : Int32 := x - x / y * y
def jushr (x y : Int32) : Int32 := (x.toUInt32 >>> (y.toUInt32 &&& Int32.toUInt32 31)).toInt32
def jcat (lv : List (Nat × Value)) : Bool := lv.all (fun q => q.2.category == 1)
def jset : List (Nat × Value) → Nat → Value → List (Nat × Value)
  | [], i, v => [(i, v)]
  | q :: l, i, v => if q.1 = i then (i, v) :: l.filter (fun r => !(r.1 == i)) else if i < q.1 then (i, v) :: (q :: l).filter (fun r => !(r.1 == i)) else q :: jset l i v
theorem jset_mem {i : Nat} {v : Value} : ∀ {lv : List (Nat × Value)} {q : Nat × Value}, q ∈ jset lv i v → q = (i, v) ∨ (q ∈ lv ∧ q.1 ≠ i)
  | [], q, h => by
    simp only [jset, List.mem_singleton] at h
    exact Or.inl h
  | r :: l, q, h => by
    unfold jset at h
    split at h
    · rcases List.mem_cons.mp h with h | h
      · exact Or.inl h
      · obtain ⟨h1, h2⟩ := List.mem_filter.mp h
        exact Or.inr ⟨List.mem_cons_of_mem _ h1, by simpa using h2⟩
    · rename_i hr
      split at h
      · rcases List.mem_cons.mp h with h | h
        · exact Or.inl h
        · obtain ⟨h1, h2⟩ := List.mem_filter.mp h
          exact Or.inr ⟨h1, by simpa using h2⟩
      · rcases List.mem_cons.mp h with h | h
        · exact Or.inr ⟨by rw [h]; exact List.mem_cons_self, by rw [h]; exact hr⟩
        · rcases jset_mem h with h | ⟨h1, h2⟩
          · exact Or.inl h
          · exact Or.inr ⟨List.mem_cons_of_mem _ h1, h2⟩
theorem jlset {lv lv' : List (Nat × Value)} {ls : Array Slot} {nL i : Nat} {v : Value} (h1 : jcat lv = true) (h : lv_has ls nL ((i, v) :: lv.filter (fun q => !(q.1 == i) && !(q.1 + 1 == i && q.2.category == 2)))) (hs : jset lv i v = lv') : lv_has ls nL lv' := by
  subst hs
  refine ⟨h.1, h.2.1, fun q hq => h.2.2 q ?_⟩
  rcases jset_mem hq with hq | ⟨hq, hn⟩
  · rw [hq]; exact List.mem_cons_self
  · refine List.mem_cons_of_mem _ (List.mem_filter.mpr ⟨hq, ?_⟩)
    have h2 := (List.all_eq_true.mp h1) q hq
    have h3 : q.2.category = 1 := by simpa using h2
    simp [hn, h3]
/-- the locals in another order, or fewer of them -/
theorem j_locals {G : jG} {M : jM} {d mc ms : Nat} {P : jR → va_W → Prop} {pc : Nat} {lv lv' : List (Nat × Value)} {st : List Value} {ws : va_W} {k n : Nat} (h : ∀ q ∈ lv', q ∈ lv) (kk : J G M d mc ms P pc lv' st ws k n) : J G M d mc ms P pc lv st ws k n :=
  fun p l e s m args below meth c D A C H locs ls hP hD hS hl => kk p l e s m args below meth c D A C H locs ls hP hD hS ⟨hl.1, hl.2.1, fun q hq => hl.2.2 q (h q hq)⟩
theorem j_widen {G : jG} {M : jM} {d mc ms : Nat} {P : jR → va_W → Prop} {pc : Nat} {lv : List (Nat × Value)} {st : List Value} {ws : va_W} {k n k' n' : Nat} (h1 : k ≤ k') (h2 : n ≤ n') (kk : J G M d mc ms P pc lv st ws k' n') : J G M d mc ms P pc lv st ws k n :=
  fun p l e s m args below meth c D A C H locs ls hP hD hS hl => W.widen h1 h2 (kk p l e s m args below meth c D A C H locs ls hP hD hS hl)
section JR
variable {G : jG} {M : jM} {d mc ms : Nat} {P : jR → va_W → Prop} {pc : Nat} {lv : List (Nat × Value)} {st : List Value} {ws : va_W} {k n : Nat}
theorem j_iadd {x y : Int32} (hd : decode M.2.1 pc = .ok (.iadd, 1)) (kk : J G M d mc ms P (pc + 1) lv (.int (x + y) :: st) ws k n) : J G M d mc ms P (pc) lv (.int y :: .int x :: st) ws k n :=
  fun p l e s m args below meth c D A C H locs ls hP hD hS hl => lv_iadd C.1 C.2.1 hd (kk p l e s m args below meth c D A C H locs ls hP hD hS hl)
theorem j_isub {x y : Int32} (hd : decode M.2.1 pc = .ok (.isub, 1)) (kk : J G M d mc ms P (pc + 1) lv (.int (x - y) :: st) ws k n) : J G M d mc ms P (pc) lv (.int y :: .int x :: st) ws k n :=
  fun p l e s m args below meth c D A C H locs ls hP hD hS hl => lv_isub C.1 C.2.1 hd (kk p l e s m args below meth c D A C H locs ls hP hD hS hl)
theorem j_imul {x y : Int32} (hd : decode M.2.1 pc = .ok (.imul, 1)) (kk : J G M d mc ms P (pc + 1) lv (.int (x * y) :: st) ws k n) : J G M d mc ms P (pc) lv (.int y :: .int x :: st) ws k n :=
  fun p l e s m args below meth c D A C H locs ls hP hD hS hl => lv_imul C.1 C.2.1 hd (kk p l e s m args below meth c D A C H locs ls hP hD hS hl)
theorem j_iand {x y : Int32} (hd : decode M.2.1 pc = .ok (.iand, 1)) (kk : J G M d mc ms P (pc + 1) lv (.int (x &&& y) :: st) ws k n) : J G M d mc ms P (pc) lv (.int y :: .int x :: st) ws k n :=
  fun p l e s m args below meth c D A C H locs ls hP hD hS hl => lv_iand C.1 C.2.1 hd (kk p l e s m args below meth c D A C H locs ls hP hD hS hl)
theorem j_ior {x y : Int32} (hd : decode M.2.1 pc = .ok (.ior, 1)) (kk : J G M d mc ms P (pc + 1) lv (.int (x ||| y) :: st) ws k n) : J G M d mc ms P (pc) lv (.int y :: .int x :: st) ws k n :=
  fun p l e s m args below meth c D A C H locs ls hP hD hS hl => lv_ior C.1 C.2.1 hd (kk p l e s m args below meth c D A C H locs ls hP hD hS hl)
theorem j_ixor {x y : Int32} (hd : decode M.2.1 pc = .ok (.ixor, 1)) (kk : J G M d mc ms P (pc + 1) lv (.int (x ^^^ y) :: st) ws k n) : J G M d mc ms P (pc) lv (.int y :: .int x :: st) ws k n :=
  fun p l e s m args below meth c D A C H locs ls hP hD hS hl => lv_ixor C.1 C.2.1 hd (kk p l e s m args below meth c D A C H locs ls hP hD hS hl)
theorem j_idiv {x y : Int32} (hd : decode M.2.1 pc = .ok (.idiv, 1)) (hne : ¬ y = 0) (kk : J G M d mc ms P (pc + 1) lv (.int (x / y) :: st) ws k n) : J G M d mc ms P (pc) lv (.int y :: .int x :: st) ws k n :=
  fun p l e s m args below meth c D A C H locs ls hP hD hS hl => lv_idiv C.1 C.2.1 hd hne (kk p l e s m args below meth c D A C H locs ls hP hD hS hl)
theorem j_irem {x y : Int32} (hd : decode M.2.1 pc = .ok (.irem, 1)) (hne : ¬ y = 0) (kk : J G M d mc ms P (pc + 1) lv (.int (jrem x y) :: st) ws k n) : J G M d mc ms P (pc) lv (.int y :: .int x :: st) ws k n :=
  fun p l e s m args below meth c D A C H locs ls hP hD hS hl => lv_irem C.1 C.2.1 hd hne (kk p l e s m args below meth c D A C H locs ls hP hD hS hl)
theorem j_ineg {x : Int32} (hd : decode M.2.1 pc = .ok (.ineg, 1)) (kk : J G M d mc ms P (pc + 1) lv (.int (-x) :: st) ws k n) : J G M d mc ms P (pc) lv (.int x :: st) ws k n :=
  fun p l e s m args below meth c D A C H locs ls hP hD hS hl => lv_ineg C.1 C.2.1 hd (kk p l e s m args below meth c D A C H locs ls hP hD hS hl)
theorem j_ishl {x y : Int32} (hd : decode M.2.1 pc = .ok (.ishl, 1)) (kk : J G M d mc ms P (pc + 1) lv (.int (x <<< (y &&& 31)) :: st) ws k n) : J G M d mc ms P (pc) lv (.int y :: .int x :: st) ws k n :=
  fun p l e s m args below meth c D A C H locs ls hP hD hS hl => lv_ishl C.1 C.2.1 hd (kk p l e s m args below meth c D A C H locs ls hP hD hS hl)
theorem j_ishr {x y : Int32} (hd : decode M.2.1 pc = .ok (.ishr, 1)) (kk : J G M d mc ms P (pc + 1) lv (.int (x >>> (y &&& 31)) :: st) ws k n) : J G M d mc ms P (pc) lv (.int y :: .int x :: st) ws k n :=
  fun p l e s m args below meth c D A C H locs ls hP hD hS hl => lv_ishr C.1 C.2.1 hd (kk p l e s m args below meth c D A C H locs ls hP hD hS hl)
theorem j_iushr {x y : Int32} (hd : decode M.2.1 pc = .ok (.iushr, 1)) (kk : J G M d mc ms P (pc + 1) lv (.int (jushr x y) :: st) ws k n) : J G M d mc ms P (pc) lv (.int y :: .int x :: st) ws k n :=
  fun p l e s m args below meth c D A C H locs ls hP hD hS hl => lv_iushr C.1 C.2.1 hd rfl (kk p l e s m args below meth c D A C H locs ls hP hD hS hl)
theorem j_iconst {i : Int} {v : Int32} (hd : decode M.2.1 pc = .ok (.iconst i, 1)) (hv : Int32.ofInt i = v) (kk : J G M d mc ms P (pc + 1) lv (.int v :: st) ws k n) : J G M d mc ms P (pc) lv (st) ws k n :=
  fun p l e s m args below meth c D A C H locs ls hP hD hS hl => lv_iconst C.1 C.2.1 hd hv (kk p l e s m args below meth c D A C H locs ls hP hD hS hl)
theorem j_bipush {i : Int} {v : Int32} (hd : decode M.2.1 pc = .ok (.bipush i, 2)) (hv : (Int8.ofInt i).toInt32 = v) (kk : J G M d mc ms P (pc + 2) lv (.int v :: st) ws k n) : J G M d mc ms P (pc) lv (st) ws k n :=
  fun p l e s m args below meth c D A C H locs ls hP hD hS hl => lv_bipush C.1 C.2.1 hd hv (kk p l e s m args below meth c D A C H locs ls hP hD hS hl)
theorem j_sipush {i : Int} {v : Int32} (hd : decode M.2.1 pc = .ok (.sipush i, 3)) (hv : (Int16.ofInt i).toInt32 = v) (kk : J G M d mc ms P (pc + 3) lv (.int v :: st) ws k n) : J G M d mc ms P (pc) lv (st) ws k n :=
  fun p l e s m args below meth c D A C H locs ls hP hD hS hl => lv_sipush C.1 C.2.1 hd hv (kk p l e s m args below meth c D A C H locs ls hP hD hS hl)
theorem j_i2l {x : Int32} (hd : decode M.2.1 pc = .ok (.i2l, 1)) (kk : J G M d mc ms P (pc + 1) lv (.long x.toInt64 :: st) ws k n) : J G M d mc ms P (pc) lv (.int x :: st) ws k n :=
  fun p l e s m args below meth c D A C H locs ls hP hD hS hl => lv_i2l C.1 C.2.1 hd rfl (kk p l e s m args below meth c D A C H locs ls hP hD hS hl)
theorem j_i2b {x : Int32} (hd : decode M.2.1 pc = .ok (.i2b, 1)) (kk : J G M d mc ms P (pc + 1) lv (.int x.toInt8.toInt32 :: st) ws k n) : J G M d mc ms P (pc) lv (.int x :: st) ws k n :=
  fun p l e s m args below meth c D A C H locs ls hP hD hS hl => lv_i2b C.1 C.2.1 hd rfl (kk p l e s m args below meth c D A C H locs ls hP hD hS hl)
theorem j_dup {a : Value} (hd : decode M.2.1 pc = .ok (.dup, 1)) (h1 : a.category = 1) (kk : J G M d mc ms P (pc + 1) lv (a :: a :: st) ws k n) : J G M d mc ms P (pc) lv (a :: st) ws k n :=
  fun p l e s m args below meth c D A C H locs ls hP hD hS hl => lv_dup C.1 C.2.1 hd h1 (kk p l e s m args below meth c D A C H locs ls hP hD hS hl)
theorem j_pop {a : Value} (hd : decode M.2.1 pc = .ok (.pop, 1)) (h1 : a.category = 1) (kk : J G M d mc ms P (pc + 1) lv (st) ws k n) : J G M d mc ms P (pc) lv (a :: st) ws k n :=
  fun p l e s m args below meth c D A C H locs ls hP hD hS hl => lv_pop C.1 C.2.1 hd h1 (kk p l e s m args below meth c D A C H locs ls hP hD hS hl)
theorem j_dup_x1 {a b : Value} (hd : decode M.2.1 pc = .ok (.dup_x1, 1)) (h1 : a.category = 1) (h2 : b.category = 1) (kk : J G M d mc ms P (pc + 1) lv (a :: b :: a :: st) ws k n) : J G M d mc ms P (pc) lv (a :: b :: st) ws k n :=
  fun p l e s m args below meth c D A C H locs ls hP hD hS hl => lv_dup_x1 C.1 C.2.1 hd h1 h2 (kk p l e s m args below meth c D A C H locs ls hP hD hS hl)
theorem j_dup2 {a b : Value} (hd : decode M.2.1 pc = .ok (.dup2, 1)) (h1 : a.category = 1) (h2 : b.category = 1) (kk : J G M d mc ms P (pc + 1) lv (a :: b :: a :: b :: st) ws k n) : J G M d mc ms P (pc) lv (a :: b :: st) ws k n :=
  fun p l e s m args below meth c D A C H locs ls hP hD hS hl => lv_dup2_11 C.1 C.2.1 hd h1 h2 (kk p l e s m args below meth c D A C H locs ls hP hD hS hl)
theorem j_null  (hd : decode M.2.1 pc = .ok (.aconst_null, 1)) (kk : J G M d mc ms P (pc + 1) lv (.null :: st) ws k n) : J G M d mc ms P (pc) lv (st) ws k n :=
  fun p l e s m args below meth c D A C H locs ls hP hD hS hl => lv_null C.1 C.2.1 hd (kk p l e s m args below meth c D A C H locs ls hP hD hS hl)
theorem j_ldc {i : Nat} {v : Int32} (hd : decode M.2.1 pc = .ok (.ldc i, 2)) (hw : Cond.constant M.1 i v ∈ jWS) (kk : J G M d mc ms P (pc + 2) lv (.int v :: st) ws k n) : J G M d mc ms P (pc) lv (st) ws k n :=
  fun p l e s m args below meth c D A C H locs ls hP hD hS hl => lv_ldc C.1 C.2.1 C.2.2.2.1 (C.2.2.2.2.1 _ hw) hd (kk p l e s m args below meth c D A C H locs ls hP hD hS hl)
theorem j_ldcw {i : Nat} {v : Int32} (hd : decode M.2.1 pc = .ok (.ldc_w i, 3)) (hw : Cond.constant M.1 i v ∈ jWS) (kk : J G M d mc ms P (pc + 3) lv (.int v :: st) ws k n) : J G M d mc ms P (pc) lv (st) ws k n :=
  fun p l e s m args below meth c D A C H locs ls hP hD hS hl => lv_ldcw C.1 C.2.1 C.2.2.2.1 (C.2.2.2.2.1 _ hw) hd (kk p l e s m args below meth c D A C H locs ls hP hD hS hl)
theorem j_iload_n {i : Fin 4} {x : Int32} (q : Nat) (hd : decode M.2.1 pc = .ok (.iload_n i, 1)) (h : lv[q]? = some ((i : Nat), .int x)) (kk : J G M d mc ms P (pc + 1) lv (.int x :: st) ws k n) : J G M d mc ms P (pc) lv (st) ws k n :=
  fun p l e s m args below meth c D A C H locs ls hP hD hS hl => lv_iload_n C.1 C.2.1 hd rfl (lv_at hl q h) (kk p l e s m args below meth c D A C H locs ls hP hD hS hl)
theorem j_iload {i : Nat} {x : Int32} (q : Nat) (hd : decode M.2.1 pc = .ok (.iload i, 2)) (h : lv[q]? = some (i, .int x)) (kk : J G M d mc ms P (pc + 2) lv (.int x :: st) ws k n) : J G M d mc ms P (pc) lv (st) ws k n :=
  fun p l e s m args below meth c D A C H locs ls hP hD hS hl => lv_iload C.1 C.2.1 hd (lv_at hl q h) (kk p l e s m args below meth c D A C H locs ls hP hD hS hl)
theorem j_aload_n {i : Fin 4} {x : Nat} (q : Nat) (hd : decode M.2.1 pc = .ok (.aload_n i, 1)) (h : lv[q]? = some ((i : Nat), .ref x)) (kk : J G M d mc ms P (pc + 1) lv (.ref x :: st) ws k n) : J G M d mc ms P (pc) lv (st) ws k n :=
  fun p l e s m args below meth c D A C H locs ls hP hD hS hl => lv_aload_n C.1 C.2.1 hd rfl (lv_at hl q h) (kk p l e s m args below meth c D A C H locs ls hP hD hS hl)
theorem j_aload {i : Nat} {x : Nat} (q : Nat) (hd : decode M.2.1 pc = .ok (.aload i, 2)) (h : lv[q]? = some (i, .ref x)) (kk : J G M d mc ms P (pc + 2) lv (.ref x :: st) ws k n) : J G M d mc ms P (pc) lv (st) ws k n :=
  fun p l e s m args below meth c D A C H locs ls hP hD hS hl => lv_aload C.1 C.2.1 hd (lv_at hl q h) (kk p l e s m args below meth c D A C H locs ls hP hD hS hl)
theorem j_istore_n {i : Fin 4} {x : Int32} {lv' : List (Nat × Value)} (hd : decode M.2.1 pc = .ok (.istore_n i, 1)) (h1 : jcat lv = true) (hn : (i : Nat) < M.2.2.1) (hs : jset lv (i : Nat) (.int x) = lv') (kk : J G M d mc ms P (pc + 1) lv' (st) ws k n) : J G M d mc ms P (pc) lv (.int x :: st) ws k n :=
  fun p l e s m args below meth c D A C H locs ls hP hD hS hl => lv_istore_n C.1 C.2.1 hd rfl hl hn rfl (fun ls' hl' => kk p l e s m args below meth c D A C H locs ls' hP hD hS (jlset h1 hl' hs))
theorem j_istore {i : Nat} {x : Int32} {lv' : List (Nat × Value)} (hd : decode M.2.1 pc = .ok (.istore i, 2)) (h1 : jcat lv = true) (hn : i < M.2.2.1) (hs : jset lv i (.int x) = lv') (kk : J G M d mc ms P (pc + 2) lv' (st) ws k n) : J G M d mc ms P (pc) lv (.int x :: st) ws k n :=
  fun p l e s m args below meth c D A C H locs ls hP hD hS hl => lv_istore C.1 C.2.1 hd hl hn rfl (fun ls' hl' => kk p l e s m args below meth c D A C H locs ls' hP hD hS (jlset h1 hl' hs))
theorem j_astore_n {i : Fin 4} {x : Nat} {lv' : List (Nat × Value)} (hd : decode M.2.1 pc = .ok (.astore_n i, 1)) (h1 : jcat lv = true) (hn : (i : Nat) < M.2.2.1) (hs : jset lv (i : Nat) (.ref x) = lv') (kk : J G M d mc ms P (pc + 1) lv' (st) ws k n) : J G M d mc ms P (pc) lv (.ref x :: st) ws k n :=
  fun p l e s m args below meth c D A C H locs ls hP hD hS hl => lv_astore_n C.1 C.2.1 hd rfl hl hn rfl (fun ls' hl' => kk p l e s m args below meth c D A C H locs ls' hP hD hS (jlset h1 hl' hs))
theorem j_astore {i : Nat} {x : Nat} {lv' : List (Nat × Value)} (hd : decode M.2.1 pc = .ok (.astore i, 2)) (h1 : jcat lv = true) (hn : i < M.2.2.1) (hs : jset lv i (.ref x) = lv') (kk : J G M d mc ms P (pc + 2) lv' (st) ws k n) : J G M d mc ms P (pc) lv (.ref x :: st) ws k n :=
  fun p l e s m args below meth c D A C H locs ls hP hD hS hl => lv_astore C.1 C.2.1 hd hl hn rfl (fun ls' hl' => kk p l e s m args below meth c D A C H locs ls' hP hD hS (jlset h1 hl' hs))
theorem j_iinc {i : Nat} {z : Int} {x v : Int32} {lv' : List (Nat × Value)} (q : Nat) (hd : decode M.2.1 pc = .ok (.iinc i z, 3)) (h : lv[q]? = some (i, .int x)) (hv : x + Int32.ofInt z = v) (h1 : jcat lv = true) (hn : i < M.2.2.1) (hs : jset lv i (.int v) = lv') (kk : J G M d mc ms P (pc + 3) lv' (st) ws k n) : J G M d mc ms P (pc) lv (st) ws k n :=
  fun p l e s m args below meth c D A C H locs ls hP hD hS hl => lv_iinc C.1 C.2.1 hd hl h hv hn rfl (fun ls' hl' => kk p l e s m args below meth c D A C H locs ls' hP hD hS (jlset h1 hl' hs))
theorem j_if_eq {x : Int32} {off : Int} {tgt : Nat} (hd : decode M.2.1 pc = .ok (.ifCond .eq off, 3)) (ht : (pc : Int) + off = (tgt : Int)) (kt : x = 0 → J G M d mc ms P (tgt) lv (st) ws k n) (kf : ¬ (x = 0) → J G M d mc ms P (pc + 3) lv (st) ws k n) : J G M d mc ms P (pc) lv (.int x :: st) ws k n :=
  fun p l e s m args below meth c D A C H locs ls hP hD hS hl => lv_if_eq C.1 C.2.1 hd ht (fun h => kt h p l e s m args below meth c D A C H locs ls hP hD hS hl) (fun h => kf h p l e s m args below meth c D A C H locs ls hP hD hS hl)
theorem j_icmp_eq {x y : Int32} {off : Int} {tgt : Nat} (hd : decode M.2.1 pc = .ok (.if_icmp .eq off, 3)) (ht : (pc : Int) + off = (tgt : Int)) (kt : x = y → J G M d mc ms P (tgt) lv (st) ws k n) (kf : ¬ (x = y) → J G M d mc ms P (pc + 3) lv (st) ws k n) : J G M d mc ms P (pc) lv (.int y :: .int x :: st) ws k n :=
  fun p l e s m args below meth c D A C H locs ls hP hD hS hl => lv_icmp_eq C.1 C.2.1 hd ht (fun h => kt h p l e s m args below meth c D A C H locs ls hP hD hS hl) (fun h => kf h p l e s m args below meth c D A C H locs ls hP hD hS hl)
theorem j_if_ne {x : Int32} {off : Int} {tgt : Nat} (hd : decode M.2.1 pc = .ok (.ifCond .ne off, 3)) (ht : (pc : Int) + off = (tgt : Int)) (kt : ¬ x = 0 → J G M d mc ms P (tgt) lv (st) ws k n) (kf : x = 0 → J G M d mc ms P (pc + 3) lv (st) ws k n) : J G M d mc ms P (pc) lv (.int x :: st) ws k n :=
  fun p l e s m args below meth c D A C H locs ls hP hD hS hl => lv_if_ne C.1 C.2.1 hd ht (fun h => kt h p l e s m args below meth c D A C H locs ls hP hD hS hl) (fun h => kf h p l e s m args below meth c D A C H locs ls hP hD hS hl)
theorem j_icmp_ne {x y : Int32} {off : Int} {tgt : Nat} (hd : decode M.2.1 pc = .ok (.if_icmp .ne off, 3)) (ht : (pc : Int) + off = (tgt : Int)) (kt : ¬ x = y → J G M d mc ms P (tgt) lv (st) ws k n) (kf : x = y → J G M d mc ms P (pc + 3) lv (st) ws k n) : J G M d mc ms P (pc) lv (.int y :: .int x :: st) ws k n :=
  fun p l e s m args below meth c D A C H locs ls hP hD hS hl => lv_icmp_ne C.1 C.2.1 hd ht (fun h => kt h p l e s m args below meth c D A C H locs ls hP hD hS hl) (fun h => kf h p l e s m args below meth c D A C H locs ls hP hD hS hl)
theorem j_if_lt {x : Int32} {off : Int} {tgt : Nat} (hd : decode M.2.1 pc = .ok (.ifCond .lt off, 3)) (ht : (pc : Int) + off = (tgt : Int)) (kt : x < 0 → J G M d mc ms P (tgt) lv (st) ws k n) (kf : ¬ (x < 0) → J G M d mc ms P (pc + 3) lv (st) ws k n) : J G M d mc ms P (pc) lv (.int x :: st) ws k n :=
  fun p l e s m args below meth c D A C H locs ls hP hD hS hl => lv_if_lt C.1 C.2.1 hd ht (fun h => kt h p l e s m args below meth c D A C H locs ls hP hD hS hl) (fun h => kf h p l e s m args below meth c D A C H locs ls hP hD hS hl)
theorem j_icmp_lt {x y : Int32} {off : Int} {tgt : Nat} (hd : decode M.2.1 pc = .ok (.if_icmp .lt off, 3)) (ht : (pc : Int) + off = (tgt : Int)) (kt : x < y → J G M d mc ms P (tgt) lv (st) ws k n) (kf : ¬ (x < y) → J G M d mc ms P (pc + 3) lv (st) ws k n) : J G M d mc ms P (pc) lv (.int y :: .int x :: st) ws k n :=
  fun p l e s m args below meth c D A C H locs ls hP hD hS hl => lv_icmp_lt C.1 C.2.1 hd ht (fun h => kt h p l e s m args below meth c D A C H locs ls hP hD hS hl) (fun h => kf h p l e s m args below meth c D A C H locs ls hP hD hS hl)
theorem j_if_ge {x : Int32} {off : Int} {tgt : Nat} (hd : decode M.2.1 pc = .ok (.ifCond .ge off, 3)) (ht : (pc : Int) + off = (tgt : Int)) (kt : 0 ≤ x → J G M d mc ms P (tgt) lv (st) ws k n) (kf : ¬ (0 ≤ x) → J G M d mc ms P (pc + 3) lv (st) ws k n) : J G M d mc ms P (pc) lv (.int x :: st) ws k n :=
  fun p l e s m args below meth c D A C H locs ls hP hD hS hl => lv_if_ge C.1 C.2.1 hd ht (fun h => kt h p l e s m args below meth c D A C H locs ls hP hD hS hl) (fun h => kf h p l e s m args below meth c D A C H locs ls hP hD hS hl)
theorem j_icmp_ge {x y : Int32} {off : Int} {tgt : Nat} (hd : decode M.2.1 pc = .ok (.if_icmp .ge off, 3)) (ht : (pc : Int) + off = (tgt : Int)) (kt : y ≤ x → J G M d mc ms P (tgt) lv (st) ws k n) (kf : ¬ (y ≤ x) → J G M d mc ms P (pc + 3) lv (st) ws k n) : J G M d mc ms P (pc) lv (.int y :: .int x :: st) ws k n :=
  fun p l e s m args below meth c D A C H locs ls hP hD hS hl => lv_icmp_ge C.1 C.2.1 hd ht (fun h => kt h p l e s m args below meth c D A C H locs ls hP hD hS hl) (fun h => kf h p l e s m args below meth c D A C H locs ls hP hD hS hl)
theorem j_if_gt {x : Int32} {off : Int} {tgt : Nat} (hd : decode M.2.1 pc = .ok (.ifCond .gt off, 3)) (ht : (pc : Int) + off = (tgt : Int)) (kt : 0 < x → J G M d mc ms P (tgt) lv (st) ws k n) (kf : ¬ (0 < x) → J G M d mc ms P (pc + 3) lv (st) ws k n) : J G M d mc ms P (pc) lv (.int x :: st) ws k n :=
  fun p l e s m args below meth c D A C H locs ls hP hD hS hl => lv_if_gt C.1 C.2.1 hd ht (fun h => kt h p l e s m args below meth c D A C H locs ls hP hD hS hl) (fun h => kf h p l e s m args below meth c D A C H locs ls hP hD hS hl)
theorem j_icmp_gt {x y : Int32} {off : Int} {tgt : Nat} (hd : decode M.2.1 pc = .ok (.if_icmp .gt off, 3)) (ht : (pc : Int) + off = (tgt : Int)) (kt : y < x → J G M d mc ms P (tgt) lv (st) ws k n) (kf : ¬ (y < x) → J G M d mc ms P (pc + 3) lv (st) ws k n) : J G M d mc ms P (pc) lv (.int y :: .int x :: st) ws k n :=
  fun p l e s m args below meth c D A C H locs ls hP hD hS hl => lv_icmp_gt C.1 C.2.1 hd ht (fun h => kt h p l e s m args below meth c D A C H locs ls hP hD hS hl) (fun h => kf h p l e s m args below meth c D A C H locs ls hP hD hS hl)
theorem j_if_le {x : Int32} {off : Int} {tgt : Nat} (hd : decode M.2.1 pc = .ok (.ifCond .le off, 3)) (ht : (pc : Int) + off = (tgt : Int)) (kt : x ≤ 0 → J G M d mc ms P (tgt) lv (st) ws k n) (kf : ¬ (x ≤ 0) → J G M d mc ms P (pc + 3) lv (st) ws k n) : J G M d mc ms P (pc) lv (.int x :: st) ws k n :=
  fun p l e s m args below meth c D A C H locs ls hP hD hS hl => lv_if_le C.1 C.2.1 hd ht (fun h => kt h p l e s m args below meth c D A C H locs ls hP hD hS hl) (fun h => kf h p l e s m args below meth c D A C H locs ls hP hD hS hl)
theorem j_icmp_le {x y : Int32} {off : Int} {tgt : Nat} (hd : decode M.2.1 pc = .ok (.if_icmp .le off, 3)) (ht : (pc : Int) + off = (tgt : Int)) (kt : x ≤ y → J G M d mc ms P (tgt) lv (st) ws k n) (kf : ¬ (x ≤ y) → J G M d mc ms P (pc + 3) lv (st) ws k n) : J G M d mc ms P (pc) lv (.int y :: .int x :: st) ws k n :=
  fun p l e s m args below meth c D A C H locs ls hP hD hS hl => lv_icmp_le C.1 C.2.1 hd ht (fun h => kt h p l e s m args below meth c D A C H locs ls hP hD hS hl) (fun h => kf h p l e s m args below meth c D A C H locs ls hP hD hS hl)
theorem j_goto {off : Int} {tgt : Nat} (hd : decode M.2.1 pc = .ok (.goto off, 3)) (ht : (pc : Int) + off = (tgt : Int)) (kk : J G M d mc ms P (tgt) lv (st) ws k n) : J G M d mc ms P (pc) lv (st) ws k n :=
  fun p l e s m args below meth c D A C H locs ls hP hD hS hl => lv_goto C.1 C.2.1 hd ht (kk p l e s m args below meth c D A C H locs ls hP hD hS hl)
end JR
end
section
/-! ===== the heap: fields, arrays ===== -/
section JH
variable {G : jG} {M : jM} {d mc ms : Nat} {P : jR → va_W → Prop} {pc : Nat} {lv : List (Nat × Value)} {st : List Value} {ws : va_W} {k n : Nat}
/-- field number kf of the objects of class number ci, by the entry ix of the class own -/
def jFl (own : String) (ix ci kf : Nat) : Prop := ∃ (C : String) (T : u_T) (N : Nat) (ref : String), vwCl[ci]? = some (C, T, N) ∧ kf < N ∧ (∀ w ∈ u_ws C T N, w ∈ jWS) ∧ Cond.fieldLink own ix ref (T kf).2.1 (T kf).2.2.1 ∈ jWS ∧ (ref = (T kf).1 ∨ Cond.sameField ref (T kf).1 (T kf).2.1 (T kf).2.2.1 ∈ jWS)
theorem j_get {ix ci kf a : Nat} {fs : List Value} {v : Value} (F : jFl M.1 ix ci kf) (q0 : Nat) (hd : decode M.2.1 pc = .ok (.getfield ix, 3)) (he : ws[q0]? = some (a, .inr (ci, fs))) (hv : fs[kf]? = some v) (kk : J G M d mc ms P (pc + 3) lv (v :: st) ws k n) : J G M d mc ms P pc lv (.ref a :: st) ws k n :=
  fun p l e s m args below meth c D A C H locs ls hP hD hS hl => by
    obtain ⟨C0, T0, N0, ref, f1, f2, f3, f4, f5⟩ := F
    have hts := C.2.2.2.2.1
    refine va_get C.1 C.2.1 hts f3 C.2.2.2.1 C.2.2.2.2.2.1.1 hP q0 he f1 kf f2 (hts _ f4) ?_ hv hd (kk p l e s m args below meth c D A C H locs ls hP hD hS hl)
    intro x h9
    rcases f5 with f5 | f5
    · rw [f5]; exact h9
    · exact u_same (hts _ f5) x h9
/-- it may be written: by anyone, or, final, by a constructor of its class -/
def jFp (own nm : String) (ix ci kf : Nat) (ty : FieldType) : Prop := jFl own ix ci kf ∧ ∃ (C : String) (T : u_T) (N : Nat) (ty0 : Nat → FieldType), vwCl[ci]? = some (C, T, N) ∧ (∀ k, k < N → parseFieldDescriptor (T k).2.2.1 = some (ty0 k)) ∧ (∀ a, a < N → ∀ b, b < N → a ≠ b → (T a).2.1 ≠ (T b).2.1) ∧ ty0 kf = ty ∧ ((T kf).2.2.2 = false ∨ ((T kf).2.2.2 = true ∧ nm = "<init>" ∧ (T kf).1 = own))
theorem j_put {ix ci kf a : Nat} {fs : List Value} {v : Value} {ty : FieldType} {ws' : va_W} (F : jFp M.1 M.2.2.2.2.1 ix ci kf ty) (q0 : Nat) (hd : decode M.2.1 pc = .ok (.putfield ix, 3)) (he : ws[q0]? = some (a, .inr (ci, fs))) (hn : narrow ty v = v) (hfit : fits ty v = true) (hl0 : kf < fs.length) (hw : ws.set q0 (a, .inr (ci, fs.set kf v)) = ws') (kk : J G M d mc ms P (pc + 3) lv st ws' k n) : J G M d mc ms P pc lv (v :: .ref a :: st) ws k n :=
  fun p l e s m args below meth c D A C H locs ls hP hD hS hl => by
    subst hw
    obtain ⟨⟨C0, T0, N0, ref, f1, f2, f3, f4, f5⟩, C1, T1, N1, ty0, g1, g2, g3, g4, g5⟩ := F
    cases Option.some.inj (f1.symm.trans g1)
    have hts := C.2.2.2.2.1
    have hsame : ∀ x, s.fieldFound? (T0 kf).1 (T0 kf).2.1 (T0 kf).2.2.1 = some x → s.fieldFound? ref (T0 kf).2.1 (T0 kf).2.2.1 = some x := by
      intro x h9
      rcases f5 with f5 | f5
      · rw [f5]; exact h9
      · exact u_same (hts _ f5) x h9
    have hty : parseFieldDescriptor (T0 kf).2.2.1 = some ty := by rw [g2 kf f2, g4]
    rcases g5 with g5 | ⟨g5, g6, g7⟩
    · exact va_put C.1 C.2.1 hts f3 ty0 g2 g3 C.2.2.2.1 C.2.2.2.2.2.1.1 hP hD hS q0 he f1 kf f2 (hts _ f4) hsame g5 hty hn hfit hl0 hd (fun H1 locs1 hP1 hD1 hS1 => kk p l e s m args below meth c D A C H1 locs1 ls hP1 hD1 hS1 hl)
    · exact va_putF C.1 C.2.1 hts f3 ty0 g2 g3 C.2.2.2.1 C.2.2.2.2.2.1.1 hP hD hS q0 he f1 kf f2 (hts _ f4) hsame g5 (by rw [C.2.2.2.2.2.2.2.2.2.2.1]; exact g6) g7 hty hn hfit hl0 hd (fun H1 locs1 hP1 hD1 hS1 => kk p l e s m args below meth c D A C H1 locs1 ls hP1 hD1 hS1 hl)
theorem j_iald {a N : Nat} {f : Nat → Int32} {i : Int32} (q0 : Nat) (hd : decode M.2.1 pc = .ok (.iaload, 1)) (ha : ws[q0]? = some (a, .inl (G.1 0, N, .inl f))) (hin : vp_in i N) (kk : J G M d mc ms P (pc + 1) lv (.int (f i.toNatClampNeg) :: st) ws k n) : J G M d mc ms P pc lv (.int i :: .ref a :: st) ws k n :=
  fun p l e s m args below meth c D A C H locs ls hP hD hS hl => va_iald C.1 C.2.1 C.2.2.2.2.2.1.1 hP q0 0 ha rfl hin hd (kk p l e s m args below meth c D A C H locs ls hP hD hS hl)
theorem j_iast {a N : Nat} {f : Nat → Int32} {i x : Int32} {ws' : va_W} (q0 : Nat) (hd : decode M.2.1 pc = .ok (.iastore, 1)) (ha : ws[q0]? = some (a, .inl (G.1 0, N, .inl f))) (hin : vp_in i N) (hw : ws.set q0 (a, .inl (G.1 0, N, .inl (upd f i.toNatClampNeg x))) = ws') (kk : J G M d mc ms P (pc + 1) lv st ws' k n) : J G M d mc ms P pc lv (.int x :: .int i :: .ref a :: st) ws k n :=
  fun p l e s m args below meth c D A C H locs ls hP hD hS hl => by
    subst hw
    exact va_iast C.1 C.2.1 C.2.2.2.2.2.1.1 hP hD hS q0 0 ha rfl hin hd (fun H1 locs1 hP1 hD1 hS1 => kk p l e s m args below meth c D A C H1 locs1 ls hP1 hD1 hS1 hl)
theorem j_bald {a N : Nat} {f : Nat → Int32} {i : Int32} (q0 : Nat) (hd : decode M.2.1 pc = .ok (.baload, 1)) (ha : ws[q0]? = some (a, .inl (G.1 1, N, .inl f))) (hin : vp_in i N) (kk : J G M d mc ms P (pc + 1) lv (.int (f i.toNatClampNeg) :: st) ws k n) : J G M d mc ms P pc lv (.int i :: .ref a :: st) ws k n :=
  fun p l e s m args below meth c D A C H locs ls hP hD hS hl => va_bald C.1 C.2.1 C.2.2.2.2.2.1.1 hP q0 1 ha rfl hin hd (kk p l e s m args below meth c D A C H locs ls hP hD hS hl)
theorem j_bast {a N : Nat} {f : Nat → Int32} {i x : Int32} {ws' : va_W} (q0 : Nat) (hd : decode M.2.1 pc = .ok (.bastore, 1)) (ha : ws[q0]? = some (a, .inl (G.1 1, N, .inl f))) (hin : vp_in i N) (hw : ws.set q0 (a, .inl (G.1 1, N, .inl (upd f i.toNatClampNeg x.toInt8.toInt32))) = ws') (kk : J G M d mc ms P (pc + 1) lv st ws' k n) : J G M d mc ms P pc lv (.int x :: .int i :: .ref a :: st) ws k n :=
  fun p l e s m args below meth c D A C H locs ls hP hD hS hl => by
    subst hw
    refine va_bast C.1 C.2.1 C.2.2.2.2.2.1.1 hP hD hS q0 1 ha rfl hin hd (fun H1 locs1 hP1 hD1 hS1 => ?_)
    rw [vp_nar_byte] at hP1 hD1
    exact kk p l e s m args below meth c D A C H1 locs1 ls hP1 hD1 hS1 hl
theorem j_lald {a N : Nat} {f : Nat → Int64} {i : Int32} (q0 : Nat) (hd : decode M.2.1 pc = .ok (.laload, 1)) (ha : ws[q0]? = some (a, .inl (G.1 2, N, .inr (.inl f)))) (hin : vp_in i N) (kk : J G M d mc ms P (pc + 1) lv (.long (f i.toNatClampNeg) :: st) ws k n) : J G M d mc ms P pc lv (.int i :: .ref a :: st) ws k n :=
  fun p l e s m args below meth c D A C H locs ls hP hD hS hl => va_lald C.1 C.2.1 C.2.2.2.2.2.1.1 hP q0 2 ha rfl hin hd (kk p l e s m args below meth c D A C H locs ls hP hD hS hl)
theorem j_last {a N : Nat} {f : Nat → Int64} {i : Int32} {x : Int64} {ws' : va_W} (q0 : Nat) (hd : decode M.2.1 pc = .ok (.lastore, 1)) (ha : ws[q0]? = some (a, .inl (G.1 2, N, .inr (.inl f)))) (hin : vp_in i N) (hw : ws.set q0 (a, .inl (G.1 2, N, .inr (.inl (vp_updL f i.toNatClampNeg x)))) = ws') (kk : J G M d mc ms P (pc + 1) lv st ws' k n) : J G M d mc ms P pc lv (.long x :: .int i :: .ref a :: st) ws k n :=
  fun p l e s m args below meth c D A C H locs ls hP hD hS hl => by
    subst hw
    exact va_last C.1 C.2.1 C.2.2.2.2.2.1.1 hP hD hS q0 2 ha rfl hin hd (fun H1 locs1 hP1 hD1 hS1 => kk p l e s m args below meth c D A C H1 locs1 ls hP1 hD1 hS1 hl)
theorem j_lcmp {x y : Int64} (hd : decode M.2.1 pc = .ok (.lcmp, 1)) (kk : J G M d mc ms P (pc + 1) lv (.int (lg_cmp x y) :: st) ws k n) : J G M d mc ms P pc lv (.long y :: .long x :: st) ws k n :=
  fun p l e s m args below meth c D A C H locs ls hP hD hS hl => W.lcmp C.1 C.2.1 hd (kk p l e s m args below meth c D A C H locs ls hP hD hS hl)
/-- an array of objects (t0: 3, 4, 5) or of arrays of ints (6) -/
theorem j_aald {a N t0 : Nat} {ty : FieldType} {f : Nat → Option Nat} {i : Int32} {v : Nat} (q0 : Nat) (hd : decode M.2.1 pc = .ok (.aaload, 1)) (ha : ws[q0]? = some (a, .inl (G.1 t0, N, .inr (.inr (.inr (.inr f)))))) (ht : (jT G)[t0]? = some (G.1 t0, ty)) (hty : ty.isReference = true) (hin : vp_in i N) (hv : f i.toNatClampNeg = some v) (kk : J G M d mc ms P (pc + 1) lv (.ref v :: st) ws k n) : J G M d mc ms P pc lv (.int i :: .ref a :: st) ws k n :=
  fun p l e s m args below meth c D A C H locs ls hP hD hS hl => by
    have hlt : i.toNatClampNeg < N := Nat.not_le.mp fun q => hin (Or.inr q)
    refine W.aald (v := .ref v) (ty := ty) C.1 C.2.1 (hP q0 _ ha) ((C.2.2.2.2.2.1.1.2 t0 _ ht).1 N (fun j => va_rf (f j))) hty (fun q => by cases q) (by show ¬ (i < 0 ∨ (arrV _ _ _).slots.size ≤ _); rw [arrV_size]; exact hin) (by show (arrV _ _ _).slots[_]? = _; rw [arrV_read _ _ hlt, hv]; rfl) rfl rfl hd (kk p l e s m args below meth c D A C H locs ls hP hD hS hl)
theorem j_alen {a t0 : Nat} {ty : FieldType} {x : vp_A} {v : Int32} (q0 : Nat) (hd : decode M.2.1 pc = .ok (.arraylength, 1)) (ha : ws[q0]? = some (a, .inl (G.1 t0, x))) (ht : (jT G)[t0]? = some (G.1 t0, ty)) (hv : Int32.ofNat x.1 = v) (kk : J G M d mc ms P (pc + 1) lv (.int v :: st) ws k n) : J G M d mc ms P pc lv (.ref a :: st) ws k n :=
  fun p l e s m args below meth c D A C H locs ls hP hD hS hl => va_alen C.1 C.2.1 C.2.2.2.2.2.1.1 hP q0 t0 ha ht hv hd (kk p l e s m args below meth c D A C H locs ls hP hD hS hl)
/-- arrays that were there before -/
theorem j_xald {b L : Nat} {f : Nat → Int32} {i : Int32} (x0 : Nat) (hd : decode M.2.1 pc = .ok (.iaload, 1)) (hx : (jXs G)[x0]? = some (b, L, f)) (hin : vp_in i L) (kk : J G M d mc ms P (pc + 1) lv (.int (f i.toNatClampNeg) :: st) ws k n) : J G M d mc ms P pc lv (.int i :: .ref b :: st) ws k n :=
  fun p l e s m args below meth c D A C H locs ls hP hD hS hl => by
    obtain ⟨z1, z2, z3⟩ := C.2.2.2.2.2.2.1.1 x0 _ hx
    exact va_sld C.1 C.2.1 z1 z2 z3 hS hin hd (kk p l e s m args below meth c D A C H locs ls hP hD hS hl)
theorem j_xlen {b L : Nat} {f : Nat → Int32} (x0 : Nat) (hd : decode M.2.1 pc = .ok (.arraylength, 1)) (hx : (jXs G)[x0]? = some (b, L, f)) (kk : J G M d mc ms P (pc + 1) lv (.int (Int32.ofNat L) :: st) ws k n) : J G M d mc ms P pc lv (.ref b :: st) ws k n :=
  fun p l e s m args below meth c D A C H locs ls hP hD hS hl => by
    obtain ⟨z1, z2, z3⟩ := C.2.2.2.2.2.2.1.1 x0 _ hx
    exact va_slen C.1 C.2.1 z1 z2 z3 hS hd (kk p l e s m args below meth c D A C H locs ls hP hD hS hl)
end JH
end
section
/-! ===== contracts over J, and calls ===== -/
def jPc (G : jG) (D : va_G) (As : List Value) (ws : va_W) (sz : Nat) : Array Value → State → Prop :=
  va_Pc As (fun U => U.heap.size = sz ∧ va_P D vwCl ws U.heap ∧ va_D (fun _ => True) ws ∧ jK G D U ∧ jZ G (va_A ws sz) U U.heap)
def jcw (M : jM) (y : MethodName) : Cond := Cond.code y M.2.1 M.2.2.1 M.2.2.2.1
def jCon (G : jG) (M : jM) (y : MethodName) (d mc ms : Nat) (As : List Value) (ws : va_W) (P : jR → va_W → Prop) : Prop :=
  ∀ (l : Launch) (D : va_G) (sz : Nat), l.stackTraces = false → jMet l y (jcw M y :: jWS) (jrm d mc ms) (jPc G D As ws sz) (jPost P D (va_A ws sz)) mc ms (va_A ws sz)
/-- it answers v, and the world is w then -/
def jEq (v : Option Value) (w : va_W) : jR → va_W → Prop := fun r w' => r = .inl v ∧ w' = w
/-- it throws an E -/
def jTw (E : String) (w : va_W) : jR → va_W → Prop := fun r w' => r = .inr E ∧ w' = w
theorem jPc.blind {G : jG} {D : va_G} {As : List Value} {ws : va_W} {sz : Nat} : FrameBlind (jPc G D As ws sz) := fun a U g mk q => by
  obtain ⟨q0, q1, qP, qD, qK, qZ⟩ := q
  exact ⟨q0, q1, qP, qD, jK.moved (u := U) (U := U.calling g mk a) (State.WarmedH.refl U) qK, jZ.moved (u := U) (U := U.calling g mk a) (Vm.Alike.refl U.vm) qZ⟩
/-- what is old stays, as far as a callee may see it -/
theorem jZ.pass {G : jG} {A : Nat → Prop} {s U : State} {H : Heap} {locs : List Loc} {ws : va_W} (hZ : jZ G A s s.heap) (hA : ∀ q, s.heap.size ≤ q → A q) (hD : va_D A ws) (hS : va_S A s.heap H locs) (hU : U.heap = H) (hW : s.WarmedH U.vm) : jZ G (va_A ws H.size) U U.heap := by
  rw [hU]
  refine jZ.narrow (A := A) ?_ (jZ.moved hW.alike (jZ.kept hZ hS.1 hS.2.1))
  intro q hq
  rcases hq with ⟨k, e, h⟩ | h
  · exact hD.2 k (q, e) h
  · exact hA q (Nat.le_trans hS.1 h)
theorem jPc.at {G : jG} {A : Nat → Prop} {D : va_G} {s U : State} {H : Heap} {locs : List Loc} {ws : va_W} {As : List Value} (hK : jK G D s) (hZ : jZ G A s s.heap) (hA : ∀ q, s.heap.size ≤ q → A q) (hP : va_P D vwCl ws H) (hD : va_D A ws) (hS : va_S A s.heap H locs) (hU : U.heap = H) (hW : s.WarmedH U.vm) : jPc G D As ws H.size As.toArray U :=
  ⟨rfl, by rw [hU], by rw [hU]; exact hP, hD.weaken (fun _ _ _ _ => trivial), jK.moved hW hK, jZ.pass hZ hA hD hS hU hW⟩
theorem jMet.toMet {l : Launch} {y : MethodName} {ws : List Cond} {rm : Room} {Pc : Array Value → State → Prop} {Qc : Array Value → State → Outcome → State → Prop} {mc ms : Nat} {free : Addr → Prop} (hM : jMet l y ws rm Pc Qc mc ms free) (hr : ∀ a st o t, Qc a st o t → ∃ v, o = .returned v) : Met l y ws rm Pc Qc mc ms free := by
  intro p e ha hc hk s m args below hf happ hP hK
  obtain ⟨k, o, h1, h2, h3, h4, L, h5, h6⟩ := hM p e ha hc hk s m args below hf happ hP hK
  exact ⟨k, o, h1, h2, h3, h4, L, ⟨hr _ _ _ _ h4, h5⟩, h6⟩
theorem jMet.of {l : Launch} {y : MethodName} {ws : List Cond} {rm : Room} {Pc : Array Value → State → Prop} {Qc : Array Value → State → Outcome → State → Prop} {mc ms : Nat} {free : Addr → Prop} {cc : ByteArray} {maxL : Nat} {ret : Option FieldType}
    (hy : plainName y.cls = true) (his : ∀ args (s : State) m, (allAtoms ws).before args s = true → s.methodNamed? y = some m → ∃ meth c, s.vm.method? m = some meth ∧ meth.code = some c ∧ c.code = cc ∧ c.maxLocals = maxL ∧ meth.sig.returnType = ret ∧ meth.locks = false)
    (body : ∀ p e s m args below meth c s₁, BodyLoose p l y (headSpec ws rm) cc maxL ret e s m args below meth c s₁ → c.maxLocals = maxL → Pc args s → meth.code = some c →
      W p l e rm s m args below meth c s.heap [] 0 0 (jMQ below Qc args s mc ms free) (entryFrame m args maxL)) : jMet l y ws rm Pc Qc mc ms free := by
  refine MetFree.of_bodyS (code := cc) (maxLocals := maxL) (ret := ret) hy his (fun p e s m args below meth c s₁ B hml hP _ => ?_)
  have X := Stand.of_body B
  obtain ⟨t, a1, o, b1⟩ := body p e s m args below meth c s₁ B hml hP X.code s₁ (by rw [B.state]; rfl) X
  exact ⟨t, o, a1, b1⟩
/-- no cell of a world holds a class's statics -/
theorem jNS {D : va_G} {ws : va_W} {H : Heap} (hP : va_P D vwCl ws H) : ∀ q, va_A ws H.size q → ∀ cell : Cell, H[q]? = some cell → cell.vm.isStatics = false := by
  intro q hq cell hc
  rcases hq with ⟨k, e, h⟩ | h
  · have h1 := hP k (q, e) h
    cases e with
    | inl x =>
      have h2 : H[q]? = some (vp_cell x.1 x.2) := h1
      rw [h2] at hc
      cases Option.some.inj hc
      obtain ⟨cA, nn, f | f | f | f | f⟩ := x <;> rfl
    | inr o =>
      obtain ⟨r, -, cell', g1, g2, g3, -⟩ := h1
      have h3 : H[q]? = some cell' := g1
      rw [h3] at hc
      cases Option.some.inj hc
      rw [g3]; rfl
  · rw [Array.getElem?_eq_none h] at hc
    cases hc
/-- a contract out of a walk -/
theorem jCon.of {G : jG} {M : jM} {y : MethodName} {d mc ms : Nat} {As : List Value} {ws : va_W} {P : jR → va_W → Prop} {lv : List (Nat × Value)} (hy : plainName y.cls = true) (hc : M.1 = y.cls) (hnm : M.2.2.2.2.1 = y.name) (hh : M.2.2.2.2.2 = []) (hlen : (lg_sl As).length ≤ M.2.2.1) (hlv : lv_args 0 As = lv)
    (body : J G M d mc ms P 0 lv [] ws 0 0) : jCon G M y d mc ms As ws P := by
  intro l D sz hl
  have hhead : ∀ (args : Array Value) (s : State) (m : MethodId), (allAtoms (jcw M y :: jWS)).before args s = true → s.methodNamed? y = some m → ∃ meth c, s.vm.method? m = some meth ∧ meth.code = some c ∧ c.code = M.2.1 ∧ c.maxLocals = M.2.2.1 ∧ meth.sig.returnType = M.2.2.2.1 ∧ meth.locks = false ∧ c.exceptionTable.isEmpty = true := fun args s m h hn => by
    obtain ⟨meth, c, h1, h2, h3, h4, h5, h6, h7, -⟩ := Cond.code_spec hn (atoms_spec (ws := jcw M y :: jWS) h _ List.mem_cons_self)
    exact ⟨meth, c, h1, h2, h3, h4, h5, h6, h7⟩
  refine jMet.of (cc := M.2.1) (maxL := M.2.2.1) (ret := M.2.2.2.1) hy (fun args s m h hn => ?_) (fun p e s m args below meth c s₁ B hml hv hcode => ?_)
  · obtain ⟨meth, c, h1, h2, h3, h4, h5, h6, -⟩ := hhead args s m h hn
    exact ⟨meth, c, h1, h2, h3, h4, h5, h6⟩
  · obtain ⟨rfl, hsz, hP, hD, hK, hZ⟩ := hv
    subst hsz
    have hx : c.exceptionTable.toList.map (fun h => (h.startPc, h.endPc, h.handlerPc, h.catchType)) = M.2.2.2.2.2 := by
      obtain ⟨meth9, c9, h1, h2, -, -, -, -, h7⟩ := hhead _ s m B.pre B.named
      cases Option.some.inj (h1.symm.trans B.method)
      cases Option.some.inj (h2.symm.trans hcode)
      rw [hh, Array.isEmpty_iff.mp h7]; rfl
    have hl0 := lv_entry As (n := M.2.2.1) hlen
    rw [lg_entry_eq]
    rw [hlv] at hl0
    exact body p l e s m As.toArray below meth c D (va_A ws s.heap.size)
      ⟨B.exec, B.bytes, hml, by rw [hc]; exact findClass_of_methodNamed B.named, fun w hw => atoms_spec (ws := jcw M y :: jWS) B.pre w (List.mem_cons_of_mem _ hw), hK, hZ, fun q h => Or.inr h, B.notSynchronized, B.returns, by rw [hnm]; exact (name_of_methodNamed B.named B.method).1, hx, hl, jNS hP⟩
      s.heap [] _ hP hD.self va_S.rf hl0
section JQ
variable {G : jG} {M : jM} {d mc ms : Nat} {P : jR → va_W → Prop} {pc : Nat} {lv : List (Nat × Value)} {st : List Value} {ws : va_W} {k n : Nat}
theorem W.mono {p : Program} {l : Launch} {e : Env} {R : Room} {s : State} {m : MethodId} {args : Array Value} {below : List Frame} {meth : Method} {c : Code} {H : Heap} {locs : List Loc} {cells slots : Nat} {Q Q' : State → Prop} {g : JFrame} (h : W p l e R s m args below meth c H locs cells slots Q g) (hQ : ∀ t, Q t → Q' t) : W p l e R s m args below meth c H locs cells slots Q' g := fun T hT X => by
  obtain ⟨t, a, b⟩ := h T hT X
  exact ⟨t, a, hQ t b⟩
theorem jMQ.of {below : List Frame} {Qc : Array Value → State → Outcome → State → Prop} {a : Array Value} {s : State} {mc ms : Nat} {free : Addr → Prop} (t : State) (h : MQ below Qc a s mc ms free t) : jMQ below Qc a s mc ms free t := by
  obtain ⟨o, h1, h2, h3, L, h4, h5⟩ := h
  exact ⟨o, h1, h2, h3, L, h4.2, h5⟩
/-- the ends -/
theorem j_iret {v : Int32} {ty : FieldType} (hd : decode M.2.1 pc = .ok (.ireturn, 1)) (hr : M.2.2.2.1 = some ty) (hn : narrow ty (.int v) = .int v) (hp : P (.inl (some (.int v))) ws) : J G M d mc ms P pc lv [.int v] ws mc ms :=
  fun p l e s m args below meth c D A C H locs ls hP hD hS hl => W.mono (W.zret C.1 C.2.1 (C.2.2.2.2.2.2.2.2.2.1.trans hr) hn (fun t ht _ => ⟨⟨.inl (some (.int v)), ws, rfl, hp, by rw [ht]; exact hP, hD⟩, hS.F ht⟩) hS.2.2 hd C.2.2.2.2.2.2.2.2.1) jMQ.of
theorem j_vret (hd : decode M.2.1 pc = .ok (.return_, 1)) (hr : M.2.2.2.1 = none) (hp : P (.inl none) ws) : J G M d mc ms P pc lv [] ws mc ms :=
  fun p l e s m args below meth c D A C H locs ls hP hD hS hl => W.mono (W.vret C.1 C.2.1 (C.2.2.2.2.2.2.2.2.2.1.trans hr) (fun t ht _ => ⟨⟨.inl none, ws, rfl, hp, by rw [ht]; exact hP, hD⟩, hS.F ht⟩) hS.2.2 hd C.2.2.2.2.2.2.2.2.1) jMQ.of
theorem j_aret {v : Nat} {rt : FieldType} (hd : decode M.2.1 pc = .ok (.areturn, 1)) (hr : M.2.2.2.1 = some rt) (hrt : (∃ n, rt = .object n) ∨ ∃ t, rt = .array t) (hp : P (.inl (some (.ref v))) ws) : J G M d mc ms P pc lv [.ref v] ws mc ms :=
  fun p l e s m args below meth c D A C H locs ls hP hD hS hl => W.mono (W.aret C.1 C.2.1 (C.2.2.2.2.2.2.2.2.2.1.trans hr) hrt (Or.inr ⟨v, rfl⟩) (fun t ht _ => ⟨⟨.inl (some (.ref v)), ws, rfl, hp, by rw [ht]; exact hP, hD⟩, hS.F ht⟩) hS.2.2 hd C.2.2.2.2.2.2.2.2.1) jMQ.of
/-- behind a call that answered -/
theorem jAfter {P' : jR → va_W → Prop} {mc' ms' : Nat} {p : Program} {l : Launch} {e : Env} {s : State} {m : MethodId} {args : Array Value} {below : List Frame} {meth : Method} {c : Code} {D : va_G} {A : Nat → Prop} {H : Heap} {locs : List Loc} {ls : Array Slot} {a : Array Value} {st0 : List Value} (C : jC G M p l s m args meth c D A) (hD : va_D A ws) (hS : va_S A s.heap H locs) (hl : lv_has ls M.2.2.1 lv)
    (hr : va_Run p l e (jrm d mc ms) s m args below meth c H locs k n mc' ms' (F0 m pc ls st0) st (jPost P' D (va_A ws H.size) a) (va_A ws H.size))
    (kk : ∀ (v : Option Value) (ws' : va_W), P' (.inl v) ws' → J G M d mc ms P (pc + 3) lv (v.toList ++ st) ws' (k + mc') (n + ms')) : W p l e (jrm d mc ms) s m args below meth c H locs k n (jMQ below (jPost P D A) args s mc ms A) (F0 m pc ls st0) := by
  have hsub : ∀ q, va_A ws H.size q → A q := by
    intro q hq
    rcases hq with ⟨k, e, h⟩ | h
    · exact hD.2 k (q, e) h
    · exact C.2.2.2.2.2.2.2.1 q (Nat.le_trans hS.1 h)
  intro T hT X
  obtain ⟨v, st₀, t, T', L, h0, X', hL, e1, e2, ⟨⟨r, ws', hout, hp, hP1, hD1⟩, hz, hk⟩, hst⟩ := hr T hT X
  rw [h0] at hz hk
  have hv : r = .inl v := by
    cases r with
    | inl v' => exact congrArg Sum.inl (Outcome.returned.inj hout).symm
    | inr E => obtain ⟨x, cell, h9, -⟩ := hout; cases h9
  subst hv
  obtain ⟨t2, a1, b1⟩ := kk v ws' hp p l e s m args below meth c D A C T'.heap (locs ++ L) ls (by rw [e1]; exact hP1) (hD1.weaken (fun _ q _ h => hsub q.1 h))
    ⟨Nat.le_trans hS.1 (by rw [e1]; exact hz), fun q h1 h2 => by rw [e1, hk q (Nat.lt_of_lt_of_le h1 hS.1) (fun z => h2 (hsub q z))]; exact hS.2.1 q h1 h2, fun q hq => by
      rcases List.mem_append.mp hq with h | h
      · exact hS.2.2 q h
      · exact hsub _ (hL q h)⟩ hl T' rfl X'
  exact ⟨t2, hst t2 a1, b1⟩
/-- what every call asks of the tables: the callee's code word, its class, how many arguments -/
def jL0 (y : MethodName) (M' : jM) (nA : Nat) : Prop := jcw M' y ∈ jWS ∧ Cond.initialized y.cls ∈ jWS ∧ (y.cls ≠ "java/lang/invoke/MethodHandle" ∧ y.cls ≠ "java/lang/invoke/VarHandle") ∧ (parseMethodDescriptor y.desc).map (fun d => d.parameters.length) = some nA ∧ M'.2.2.1 ≤ 12
theorem jL0.pay {y : MethodName} {M' : jM} {nA : Nat} (h : jL0 y M' nA) {args : Array Value} {s : State} (hts : ∀ w ∈ jWS, w.before args s = true) : ∀ w ∈ jcw M' y :: jWS, ∀ (a' : Array Value) (U : State), s.WarmedH U.vm → w.before a' U = true := by
  intro w hw a' U hW
  have hw' : w ∈ jWS := by
    rcases List.mem_cons.mp hw with h1 | h1
    · rw [h1]; exact h.1
    · exact h1
  exact word_at hW (jgood w hw') (hts w hw')
theorem jL0.len {y : MethodName} {M' : jM} {nA : Nat} (h : jL0 y M' nA) : ∀ sig, parseMethodDescriptor y.desc = some sig → nA = sig.parameters.length := by
  intro sig h1
  have h2 := h.2.2.2.1
  rw [h1] at h2
  exact (Option.some.inj h2).symm
theorem jRoom {d d' mc ms mc' ms' nL : Nat} (h : d' + 1 ≤ d) (hL : nL ≤ 12) : (jrm d' mc' ms').frames + 1 ≤ (jrm d mc ms).frames ∧ 8 + (nL + 11) + (jrm d' mc' ms').locals ≤ (jrm d mc ms).locals := by
  constructor
  · show d' + 2 + 1 ≤ d + 2
    omega
  · show 8 + (nL + 11) + (31 * d' + 60) ≤ 31 * d + 60
    omega
theorem j_callV {ix nA d' mc' ms' b ci : Nat} {y : MethodName} {M' : jM} {C0 : String} {T0 : u_T} {N0 : Nat} {fs As : List Value} {P' : jR → va_W → Prop} (K : jCon G M' y d' mc' ms' (.ref b :: As) ws P') (L : jL0 y M' nA) (hk : Cond.methodLink M.1 ix y ∈ jWS) (hi : Cond.instanceMethod y ∈ jWS) (hs : Cond.selects C0 y y ∈ jWS) (q0 : Nat) (he : ws[q0]? = some (b, .inr (ci, fs))) (hc : vwCl[ci]? = some (C0, T0, N0))
    (hd : decode M.2.1 pc = .ok (.invokevirtual ix, 3)) (hn : As.length = nA) (hst : (st.map fun v => v.category).sum ≤ 8) (hdd : d' + 1 ≤ d) (hm : k + mc' ≤ mc) (hn2 : n + ms' ≤ ms) {stk : List Value} (hstk : stk = As.reverse ++ .ref b :: st) (hnt : ∀ E w, ¬ P' (.inr E) w)
    (kk : ∀ (v : Option Value) (ws' : va_W), P' (.inl v) ws' → J G M d mc ms P (pc + 3) lv (v.toList ++ st) ws' (k + mc') (n + ms')) : J G M d mc ms P pc lv stk ws k n :=
  fun p l e s m args below meth c D A C H locs ls hP hD hS hl => by
    have hts := C.2.2.2.2.1
    have hR := jRoom (mc := mc) (ms := ms) (mc' := mc') (ms' := ms') hdd L.2.2.2.2
    refine jAfter C hD hS hl (va_runV (Ts := jWS) (nL := M.2.2.1) (As := As) (b := b) (C := C0) (n := nA) ⟨C.1, C.2.1, C.2.2.1, C.2.2.2.1, hts⟩ ((K l D H.size C.2.2.2.2.2.2.2.2.2.2.2.2.1).toMet ?_)
      ⟨⟨rfl, rfl, hR.1, hR.2, L.pay hts, List.mem_cons_self, hts _ L.1, hts _ L.2.1, L.2.2.1, L.len, hts _ hk⟩, hts _ hi, hts _ hs⟩
      ⟨jPc.blind, va_recv C.2.2.2.2.2.1.1 hP hc he, fun U hU hW => jPc.at C.2.2.2.2.2.1 C.2.2.2.2.2.2.1 C.2.2.2.2.2.2.2.1 hP hD hS hU hW⟩ rfl hn hl.1 hstk (lv_room hst) hd ⟨hm, hn2⟩) kk
    intro a st9 o t h
    obtain ⟨⟨r, w, ho, hp, -⟩, -⟩ := h
    cases r with
    | inl v => exact ⟨v, ho⟩
    | inr E => exact absurd hp (hnt E w)
theorem j_callS {ix nA d' mc' ms' : Nat} {y : MethodName} {M' : jM} {As : List Value} {P' : jR → va_W → Prop} (K : jCon G M' y d' mc' ms' As ws P') (L : jL0 y M' nA) (hk : Cond.methodLink M.1 ix y ∈ jWS) (hi : Cond.static y ∈ jWS)
    (hd : decode M.2.1 pc = .ok (.invokestatic ix, 3)) (hn : As.length = nA) (hst : (st.map fun v => v.category).sum ≤ 8) (hdd : d' + 1 ≤ d) (hm : k + mc' ≤ mc) (hn2 : n + ms' ≤ ms) {stk : List Value} (hstk : stk = As.reverse ++ st) (hnt : ∀ E w, ¬ P' (.inr E) w)
    (kk : ∀ (v : Option Value) (ws' : va_W), P' (.inl v) ws' → J G M d mc ms P (pc + 3) lv (v.toList ++ st) ws' (k + mc') (n + ms')) : J G M d mc ms P pc lv stk ws k n :=
  fun p l e s m args below meth c D A C H locs ls hP hD hS hl => by
    have hts := C.2.2.2.2.1
    have hR := jRoom (mc := mc) (ms := ms) (mc' := mc') (ms' := ms') hdd L.2.2.2.2
    refine jAfter C hD hS hl (va_runS (Ts := jWS) (nL := M.2.2.1) (As := As) (n := nA) ⟨C.1, C.2.1, C.2.2.1, C.2.2.2.1, hts⟩ ((K l D H.size C.2.2.2.2.2.2.2.2.2.2.2.2.1).toMet ?_)
      ⟨⟨rfl, rfl, hR.1, hR.2, L.pay hts, List.mem_cons_self, hts _ L.1, hts _ L.2.1, L.2.2.1, L.len, hts _ hk⟩, hts _ hi⟩
      ⟨jPc.blind, fun U hU hW => jPc.at C.2.2.2.2.2.1 C.2.2.2.2.2.2.1 C.2.2.2.2.2.2.2.1 hP hD hS hU hW⟩ rfl hn hl.1 hstk (lv_room hst) hd ⟨hm, hn2⟩) kk
    intro a st9 o t h
    obtain ⟨⟨r, w, ho, hp, -⟩, -⟩ := h
    cases r with
    | inl v => exact ⟨v, ho⟩
    | inr E => exact absurd hp (hnt E w)
theorem jDecl {U : State} {x : MethodName} (h : jW0 U) (hx : Cond.declares x ∈ lw_tbl) : va_Decl U x := by
  obtain ⟨s0, a0, h1, h2⟩ := h
  exact va_Decl.abs (va_Nw.warmD h2 (va_Nw.of rfl (h1 _ hx)))
theorem jNest {U : State} {x : MethodName} {own host : String} {ix : Nat} {a : Array Value} (h : jW0 U) (hx : Cond.methodLinkNest own ix x host ∈ lw_tbl) : (Cond.methodLinkNest own ix x host).before a U = true := by
  obtain ⟨s0, a0, h1, h2⟩ := h
  exact va_Nw.use rfl (va_Nw.warmM h2 (va_Nw.of rfl (h1 _ hx)))
theorem j_callU {ix nA d' mc' ms' b ci : Nat} {x y : MethodName} {M' : jM} {C0 : String} {T0 : u_T} {N0 : Nat} {fs As : List Value} {P' : jR → va_W → Prop} (K : jCon G M' y d' mc' ms' (.ref b :: As) ws P') (L : jL0 y M' nA) (hk : Cond.methodLink M.1 ix x ∈ jWS) (hx : x.name = y.name ∧ x.desc = y.desc ∧ (x.cls ≠ "java/lang/invoke/MethodHandle" ∧ x.cls ≠ "java/lang/invoke/VarHandle")) (hsm : Cond.sameMethod x.cls x.cls x.name x.desc ∈ jWS) (hs : Cond.selects C0 x y ∈ jWS) (hi : Cond.instanceMethod y ∈ jWS) (hde : Cond.declares x ∈ lw_tbl ∨ x = y) (q0 : Nat) (he : ws[q0]? = some (b, .inr (ci, fs))) (hc : vwCl[ci]? = some (C0, T0, N0))
    (hd : decode M.2.1 pc = .ok (.invokevirtual ix, 3)) (hn : As.length = nA) (hst : (st.map fun v => v.category).sum ≤ 8) (hdd : d' + 1 ≤ d) (hm : k + mc' ≤ mc) (hn2 : n + ms' ≤ ms) {stk : List Value} (hstk : stk = As.reverse ++ .ref b :: st) (hnt : ∀ E w, ¬ P' (.inr E) w)
    (kk : ∀ (v : Option Value) (ws' : va_W), P' (.inl v) ws' → J G M d mc ms P (pc + 3) lv (v.toList ++ st) ws' (k + mc') (n + ms')) : J G M d mc ms P pc lv stk ws k n :=
  fun p l e s m args below meth c D A C H locs ls hP hD hS hl => by
    have hts := C.2.2.2.2.1
    have hR := jRoom (mc := mc) (ms := ms) (mc' := mc') (ms' := ms') hdd L.2.2.2.2
    refine jAfter C hD hS hl (va_runU (Ts := jWS) (nL := M.2.2.1) (As := As) (b := b) (C := C0) (owner := x.cls) (x := x) (y := y) (n := nA) ⟨C.1, C.2.1, C.2.2.1, C.2.2.2.1, hts⟩ ((K l D H.size C.2.2.2.2.2.2.2.2.2.2.2.2.1).toMet ?_)
      ⟨⟨rfl, rfl, hR.1, hR.2, L.pay hts, List.mem_cons_self⟩, hts _ L.1, hts _ L.2.1, hx.2.2, by rw [hx.2.1]; exact L.len, hts _ hk, hts _ hsm, hde.elim (fun h => jDecl C.2.2.2.2.2.1.2 h) (fun h => by rw [h]; exact va_Decl.of (hts _ hi) (hts _ L.1)), hts _ hs, hts _ hi⟩
      ⟨jPc.blind, va_recv C.2.2.2.2.2.1.1 hP hc he, fun U hU hW => jPc.at C.2.2.2.2.2.1 C.2.2.2.2.2.2.1 C.2.2.2.2.2.2.2.1 hP hD hS hU hW⟩ rfl hn hl.1 hstk (lv_room hst) hd ⟨hm, hn2⟩) kk
    intro a st9 o t h
    obtain ⟨⟨r, w, ho, hp, -⟩, -⟩ := h
    cases r with
    | inl v => exact ⟨v, ho⟩
    | inr E => exact absurd hp (hnt E w)
theorem j_callI {ix nA d' mc' ms' b : Nat} {y : MethodName} {M' : jM} {As : List Value} {P' : jR → va_W → Prop} (K : jCon G M' y d' mc' ms' (.ref b :: As) ws P') (L : jL0 y M' nA) (hr0 : M'.2.2.2.1 = none) (hk : Cond.methodLink M.1 ix y ∈ jWS) (hi : Cond.instanceMethod y ∈ jWS) (hy1 : y.name = "<init>")
    (hd : decode M.2.1 pc = .ok (.invokespecial ix, 3)) (hn : As.length = nA) (hst : (st.map fun v => v.category).sum ≤ 8) (hdd : d' + 1 ≤ d) (hm : k + mc' ≤ mc) (hn2 : n + ms' ≤ ms) {stk : List Value} (hstk : stk = As.reverse ++ .ref b :: st) (hnt : ∀ E w, ¬ P' (.inr E) w)
    (kk : ∀ (v : Option Value) (ws' : va_W), P' (.inl v) ws' → J G M d mc ms P (pc + 3) lv (v.toList ++ st) ws' (k + mc') (n + ms')) : J G M d mc ms P pc lv stk ws k n :=
  fun p l e s m args below meth c D A C H locs ls hP hD hS hl => by
    have hts := C.2.2.2.2.1
    have hR := jRoom (mc := mc) (ms := ms) (mc' := mc') (ms' := ms') hdd L.2.2.2.2
    refine jAfter C hD hS hl (va_runI (Ts := jWS) (nL := M.2.2.1) (As := As) (b := b) (bytes := M'.2.1) (maxL := M'.2.2.1) (n := nA) ⟨C.1, C.2.1, C.2.2.1, C.2.2.2.1, hts⟩ ((K l D H.size C.2.2.2.2.2.2.2.2.2.2.2.2.1).toMet ?_)
      ⟨⟨rfl, rfl, hR.1, hR.2, L.pay hts, by rw [← hr0]; exact List.mem_cons_self, by rw [← hr0]; exact hts _ L.1, hts _ L.2.1, L.2.2.1, L.len, hts _ hk⟩, hy1, hts _ hi⟩
      ⟨jPc.blind, fun U hU hW => jPc.at C.2.2.2.2.2.1 C.2.2.2.2.2.2.1 C.2.2.2.2.2.2.2.1 hP hD hS hU hW⟩ rfl hn hl.1 hstk (lv_room hst) hd ⟨hm, hn2⟩) kk
    intro a st9 o t h
    obtain ⟨⟨r, w, ho, hp, -⟩, -⟩ := h
    cases r with
    | inl v => exact ⟨v, ho⟩
    | inr E => exact absurd hp (hnt E w)
theorem j_callIN {ix nA d' mc' ms' b : Nat} {y : MethodName} {M' : jM} {host : String} {As : List Value} {P' : jR → va_W → Prop} (K : jCon G M' y d' mc' ms' (.ref b :: As) ws P') (L : jL0 y M' nA) (hr0 : M'.2.2.2.1 = none) (hk : Cond.methodLinkNest M.1 ix y host ∈ lw_tbl) (hi : Cond.instanceMethod y ∈ jWS) (hy1 : y.name = "<init>")
    (hd : decode M.2.1 pc = .ok (.invokespecial ix, 3)) (hn : As.length = nA) (hst : (st.map fun v => v.category).sum ≤ 8) (hdd : d' + 1 ≤ d) (hm : k + mc' ≤ mc) (hn2 : n + ms' ≤ ms) {stk : List Value} (hstk : stk = As.reverse ++ .ref b :: st) (hnt : ∀ E w, ¬ P' (.inr E) w)
    (kk : ∀ (v : Option Value) (ws' : va_W), P' (.inl v) ws' → J G M d mc ms P (pc + 3) lv (v.toList ++ st) ws' (k + mc') (n + ms')) : J G M d mc ms P pc lv stk ws k n :=
  fun p l e s m args below meth c D A C H locs ls hP hD hS hl => by
    have hts := C.2.2.2.2.1
    have hR := jRoom (mc := mc) (ms := ms) (mc' := mc') (ms' := ms') hdd L.2.2.2.2
    refine jAfter C hD hS hl (va_runIN (Ts := jWS) (nL := M.2.2.1) (As := As) (b := b) (host := host) (bytes := M'.2.1) (maxL := M'.2.2.1) (n := nA) ⟨C.1, C.2.1, C.2.2.1, C.2.2.2.1, hts⟩ ((K l D H.size C.2.2.2.2.2.2.2.2.2.2.2.2.1).toMet ?_)
      ⟨⟨⟨rfl, rfl, hR.1, hR.2, L.pay hts, by rw [← hr0]; exact List.mem_cons_self⟩, by rw [← hr0]; exact hts _ L.1, hts _ L.2.1, L.2.2.1, L.len, jNest C.2.2.2.2.2.1.2 hk⟩, hy1, hts _ hi⟩
      ⟨jPc.blind, fun U hU hW => jPc.at C.2.2.2.2.2.1 C.2.2.2.2.2.2.1 C.2.2.2.2.2.2.2.1 hP hD hS hU hW⟩ rfl hn hl.1 hstk (lv_room hst) hd ⟨hm, hn2⟩) kk
    intro a st9 o t h
    obtain ⟨⟨r, w, ho, hp, -⟩, -⟩ := h
    cases r with
    | inl v => exact ⟨v, ho⟩
    | inr E => exact absurd hp (hnt E w)
theorem j_callSN {ix nA d' mc' ms' : Nat} {y : MethodName} {M' : jM} {host : String} {As : List Value} {P' : jR → va_W → Prop} (K : jCon G M' y d' mc' ms' As ws P') (L : jL0 y M' nA) (hk : Cond.methodLinkNest M.1 ix y host ∈ lw_tbl) (hi : Cond.static y ∈ jWS)
    (hd : decode M.2.1 pc = .ok (.invokestatic ix, 3)) (hn : As.length = nA) (hst : (st.map fun v => v.category).sum ≤ 8) (hdd : d' + 1 ≤ d) (hm : k + mc' ≤ mc) (hn2 : n + ms' ≤ ms) {stk : List Value} (hstk : stk = As.reverse ++ st) (hnt : ∀ E w, ¬ P' (.inr E) w)
    (kk : ∀ (v : Option Value) (ws' : va_W), P' (.inl v) ws' → J G M d mc ms P (pc + 3) lv (v.toList ++ st) ws' (k + mc') (n + ms')) : J G M d mc ms P pc lv stk ws k n :=
  fun p l e s m args below meth c D A C H locs ls hP hD hS hl => by
    have hts := C.2.2.2.2.1
    have hR := jRoom (mc := mc) (ms := ms) (mc' := mc') (ms' := ms') hdd L.2.2.2.2
    refine jAfter C hD hS hl (va_runSN (Ts := jWS) (nL := M.2.2.1) (As := As) (host := host) (n := nA) ⟨C.1, C.2.1, C.2.2.1, C.2.2.2.1, hts⟩ ((K l D H.size C.2.2.2.2.2.2.2.2.2.2.2.2.1).toMet ?_)
      ⟨⟨⟨rfl, rfl, hR.1, hR.2, L.pay hts, List.mem_cons_self⟩, hts _ L.1, hts _ L.2.1, L.2.2.1, L.len, jNest C.2.2.2.2.2.1.2 hk⟩, hts _ hi, trivial⟩
      ⟨jPc.blind, fun U hU hW => jPc.at C.2.2.2.2.2.1 C.2.2.2.2.2.2.1 C.2.2.2.2.2.2.2.1 hP hD hS hU hW⟩ rfl hn hl.1 hstk (lv_room hst) hd ⟨hm, hn2⟩) kk
    intro a st9 o t h
    obtain ⟨⟨r, w, ho, hp, -⟩, -⟩ := h
    cases r with
    | inl v => exact ⟨v, ho⟩
    | inr E => exact absurd hp (hnt E w)
end JQ
end
section
/-! ===== making objects and arrays, tables, switches ===== -/
section JN
variable {G : jG} {M : jM} {d mc ms : Nat} {P : jR → va_W → Prop} {pc : Nat} {lv : List (Nat × Value)} {st : List Value} {ws : va_W} {k n : Nat}
theorem j_objinit {ix a : Nat} (hk : Cond.methodLink M.1 ix objectInit ∈ jWS) (hi : Cond.instanceMethod objectInit ∈ jWS) (hc : Cond.code objectInit ⟨#[0xb1]⟩ 1 none ∈ jWS) (hd : decode M.2.1 pc = .ok (.invokespecial ix, 3)) (hst : (st.map fun v => v.category).sum ≤ 8) (kk : J G M d mc ms P (pc + 3) lv st ws k n) : J G M d mc ms P pc lv (.ref a :: st) ws k n :=
  fun p l e s m args below meth c D A C H locs ls hP hD hS hl => by
    have hts := C.2.2.2.2.1
    refine W.objInit C.1 C.2.1 C.2.2.2.1 (hts _ hk) (hts _ hi) (hts _ hc) rfl (by rw [C.2.2.1]; exact hl.1) rfl hd ?_ ?_ (kk p l e s m args below meth c D A C H locs ls hP hD hS hl)
    · show 1 ≤ d + 2
      omega
    · have h8 := lv_room (m := m) (pc := pc) (ls := ls) (rest := .ref a :: st) hst
      show _ ≤ 31 * d + 60
      omega
theorem j_new {ix ci N : Nat} {C0 : String} {T0 : u_T} {ty : Nat → FieldType} {fs : List Value} (hcl : vwCl[ci]? = some (C0, T0, N)) (hin : ∀ w ∈ u_ws C0 T0 N, w ∈ jWS) (hty : ∀ k, k < N → parseFieldDescriptor (T0 k).2.2.1 = some (ty k)) (hk : Cond.classLink M.1 ix C0 ∈ jWS) (hi : Cond.instantiable C0 N ∈ jWS) (hini : Cond.initialized C0 ∈ jWS) (hfs : ∀ j, j < N → defaultValue (ty j) = vp_V fs j)
    (hd : decode M.2.1 pc = .ok (.new ix, 3)) (hc : k + 1 ≤ mc) (hs : n + N ≤ ms) (kk : ∀ q : Nat, J G M d mc ms P (pc + 3) lv (.ref q :: st) (ws ++ [(q, .inr (ci, fs))]) (k + 1) (n + N)) : J G M d mc ms P pc lv st ws k n :=
  fun p l e s m args below meth c D A C H locs ls hP hD hS hl => by
    have hts := C.2.2.2.2.1
    exact va_new C.1 C.2.1 hts hin ty hty C.2.2.2.1 (hts _ hk) (hts _ hi) (hts _ hini) C.2.2.2.2.2.1.1 hP hD hS C.2.2.2.2.2.2.2.1 hcl hfs hc hs hd (fun q H1 hP1 hD1 hS1 => kk q p l e s m args below meth c D A C H1 locs ls hP1 hD1 hS1 hl)
theorem j_newa {aty : ArrayType} {ty : FieldType} {x : Int32} {N : Nat} {a0 : vp_A} (t0 : Nat) (hat : newarray.typeOf aty = ty) (ht : (jT G)[t0]? = some (G.1 t0, ty)) (hra : ∀ (U : State) (c1 c2 : ClassId), va_RA U c1 ty → va_RA U c2 ty → c1 = c2) (harr : Cond.arrayClass ty ∈ jWS) (ha : ∀ cA : ClassId, vp_cell cA a0 = arrV cA N (fun _ => defaultValue ty)) (hn : ¬ x < 0) (hN : x.toNatClampNeg = N) (hby : N * componentBytes ty ≤ 536870912)
    (hd : decode M.2.1 pc = .ok (.newarray aty, 2)) (hc : k + 1 ≤ mc) (hs : n + N ≤ ms) (kk : ∀ q : Nat, J G M d mc ms P (pc + 2) lv (.ref q :: st) (ws ++ [(q, .inl (G.1 t0, a0))]) (k + 1) (n + N)) : J G M d mc ms P pc lv (.int x :: st) ws k n :=
  fun p l e s m args below meth c D A C H locs ls hP hD hS hl => by
    refine va_newa C.1 C.2.1 (by rw [hat]; exact C.2.2.2.2.1 _ harr) hat C.2.2.2.2.2.1.1 hP hD hS C.2.2.2.2.2.2.2.1 ha hn hN hby hc hs hd (fun q cA H1 hK1 hP1 hD1 hS1 => ?_)
    have e1 : cA = G.1 t0 := by
      have h1 := (hK1.2 (jT G).length (cA, ty) (by simp)).2
      exact hra s _ _ h1 (C.2.2.2.2.2.1.1.2 t0 _ ht).2
    subst e1
    exact kk q p l e s m args below meth c D A C H1 locs ls hP1 hD1 hS1 hl
theorem jOver {U : State} {C0 : String} (h : jW0 U) (hx : Cond.arrayOver (.object C0) ∈ lw_tbl) : va_AO C0 U := by
  obtain ⟨s0, a0, h1, h2⟩ := h
  exact va_AO.moved h2.alike (va_AO.of (h1 _ hx))
theorem j_newq {ix N : Nat} {C0 : String} {x : Int32} (t0 : Nat) (ht : (jT G)[t0]? = some (G.1 t0, .object C0)) (hk : Cond.classLink M.1 ix C0 ∈ jWS) (ho : Cond.arrayOver (.object C0) ∈ lw_tbl) (hn : ¬ x < 0) (hN : x.toNatClampNeg = N) (hby : N * 4 ≤ 536870912)
    (hd : decode M.2.1 pc = .ok (.anewarray ix, 3)) (hc : k + 1 ≤ mc) (hs : n + N ≤ ms) (kk : ∀ q : Nat, J G M d mc ms P (pc + 3) lv (.ref q :: st) (ws ++ [(q, .inl (G.1 t0, N, .inr (.inr (.inr (.inr (fun _ => none))))))]) (k + 1) (n + N)) : J G M d mc ms P pc lv (.int x :: st) ws k n :=
  fun p l e s m args below meth c D A C H locs ls hP hD hS hl => by
    refine va_newq C.1 C.2.1 C.2.2.2.1 (C.2.2.2.2.1 _ hk) (jOver C.2.2.2.2.2.1.2 ho) C.2.2.2.2.2.1.1 hP hD hS C.2.2.2.2.2.2.2.1 hn hN hby hc hs hd (fun q cA H1 hK1 hP1 hD1 hS1 => ?_)
    have e1 : cA = G.1 t0 := by
      obtain ⟨kA, comp, -, -, -, h1⟩ := (hK1.2 (jT G).length (cA, .object C0) (by simp)).2
      obtain ⟨kB, comp2, -, -, -, h2⟩ := (C.2.2.2.2.2.1.1.2 t0 _ ht).2
      exact Option.some.inj (h1.symm.trans h2)
    subst e1
    exact kk q p l e s m args below meth c D A C H1 locs ls hP1 hD1 hS1 hl
theorem jCast {U : State} {C0 E : String} (h : jW0 U) (hx : Cond.castable C0 E ∈ lw_tbl) : va_Nw (.castable C0 E) U := by
  obtain ⟨s0, a0, h1, h2⟩ := h
  exact va_Nw.warmC h2 (va_Nw.of rfl (h1 _ hx))
/-- an object into an array of its class -/
theorem j_aast {a v N ci : Nat} {r : vw_C} {vs : List Value} {f : Nat → Option Nat} {i : Int32} {ws' : va_W} (t0 q0 qk : Nat) (ht : (jT G)[t0]? = some (G.1 t0, .object r.1)) (ha : ws[q0]? = some (a, .inl (G.1 t0, N, .inr (.inr (.inr (.inr f)))))) (hv : ws[qk]? = some (v, .inr (ci, vs))) (hc : vwCl[ci]? = some r) (hin : vp_in i N) (hd : decode M.2.1 pc = .ok (.aastore, 1))
    (hw : ws.set q0 (a, .inl (G.1 t0, N, .inr (.inr (.inr (.inr (va_up f i.toNatClampNeg (some v))))))) = ws') (kk : J G M d mc ms P (pc + 1) lv st ws' k n) : J G M d mc ms P pc lv (.ref v :: .int i :: .ref a :: st) ws k n :=
  fun p l e s m args below meth c D A C H locs ls hP hD hS hl => by
    subst hw
    exact va_astq C.1 C.2.1 C.2.2.2.2.2.1.1 hP hD hS q0 t0 qk ci ha ht hv hc hin hd (fun H1 locs1 hP1 hD1 hS1 => kk p l e s m args below meth c D A C H1 locs1 ls hP1 hD1 hS1 hl)
/-- .. of a class above it -/
theorem j_aastO {a v N ci : Nat} {E : String} {r : vw_C} {vs : List Value} {f : Nat → Option Nat} {i : Int32} {ws' : va_W} (t0 q0 qk : Nat) (ht : (jT G)[t0]? = some (G.1 t0, .object E)) (hca : Cond.castable r.1 E ∈ lw_tbl) (ha : ws[q0]? = some (a, .inl (G.1 t0, N, .inr (.inr (.inr (.inr f)))))) (hv : ws[qk]? = some (v, .inr (ci, vs))) (hc : vwCl[ci]? = some r) (hin : vp_in i N) (hd : decode M.2.1 pc = .ok (.aastore, 1))
    (hw : ws.set q0 (a, .inl (G.1 t0, N, .inr (.inr (.inr (.inr (va_up f i.toNatClampNeg (some v))))))) = ws') (kk : J G M d mc ms P (pc + 1) lv st ws' k n) : J G M d mc ms P pc lv (.ref v :: .int i :: .ref a :: st) ws k n :=
  fun p l e s m args below meth c D A C H locs ls hP hD hS hl => by
    subst hw
    exact va_astqO C.1 C.2.1 C.2.2.2.2.2.1.1 hP hD hS q0 t0 qk ci ha ht (jCast C.2.2.2.2.2.1.2 hca) hv hc hin hd (fun H1 locs1 hP1 hD1 hS1 => kk p l e s m args below meth c D A C H1 locs1 ls hP1 hD1 hS1 hl)
theorem jAcRoom {d : Nat} {st : List Value} (hst : (st.map fun v => v.category).sum ≤ 8) : 1 ≤ (jrm d mc ms).frames ∧ (st.map fun v => v.category).sum + (nativeFrameWords "java/lang/System" "arraycopy" 5 + 11) ≤ (jrm d mc ms).locals := by
  have h : nativeFrameWords "java/lang/System" "arraycopy" 5 + 11 ≤ 52 := by decide +kernel
  constructor
  · show 1 ≤ d + 2
    omega
  · show _ ≤ 31 * d + 60
    omega
/-- System.arraycopy of ints within the world -/
theorem j_copy {ix a0 a1 n0 n1 : Nat} {f g : Nat → Int32} {sp dp x : Int32} {ws' : va_W} (q0 q1 : Nat) (hk : Cond.methodLink M.1 ix arraycopyName ∈ jWS) (hnat : Cond.native arraycopyName ∈ jWS) (hsta : Cond.static arraycopyName ∈ jWS) (hini : Cond.initialized "java/lang/System" ∈ jWS) (ha0 : ws[q0]? = some (a0, .inl (G.1 0, n0, .inl f))) (ha1 : ws[q1]? = some (a1, .inl (G.1 0, n1, .inl g))) (h1 : ¬ sp < 0) (h2 : ¬ dp < 0) (h3 : ¬ x < 0) (h4 : sp.toNatClampNeg + x.toNatClampNeg ≤ n0) (h5 : dp.toNatClampNeg + x.toNatClampNeg ≤ n1)
    (hst : (st.map fun v => v.category).sum ≤ 8) (hd : decode M.2.1 pc = .ok (.invokestatic ix, 3)) (hw : ws.set q1 (a1, .inl (G.1 0, n1, .inl (va_cpy f g sp.toNatClampNeg dp.toNatClampNeg x.toNatClampNeg))) = ws') (kk : J G M d mc ms P (pc + 3) lv st ws' k n) : J G M d mc ms P pc lv (.int x :: .int dp :: .ref a1 :: .int sp :: .ref a0 :: st) ws k n :=
  fun p l e s m args below meth c D A C H locs ls hP hD hS hl => by
    subst hw
    have hts := C.2.2.2.2.1
    have hR := jAcRoom (mc := mc) (ms := ms) (d := d) hst
    exact va_copyi C.1 C.2.1 (by rw [C.2.2.1]; exact hl.1.symm) C.2.2.2.1 (hts _ hk) (hts _ hnat) (hts _ hsta) (hts _ hini) C.2.2.2.2.2.1.1 hP hD hS q0 q1 0 0 ha0 ha1 rfl rfl rfl h1 h2 h3 h4 h5 (fun _ _ => rfl) hR.1 hR.2 hd (fun H1 locs1 hP1 hD1 hS1 => kk p l e s m args below meth c D A C H1 locs1 ls hP1 hD1 hS1 hl)
/-- .. from a table that was there before -/
theorem j_copyx {ix b0 a1 n0 n1 : Nat} {f g : Nat → Int32} {sp dp x : Int32} {ws' : va_W} (x0 q1 : Nat) (hk : Cond.methodLink M.1 ix arraycopyName ∈ jWS) (hnat : Cond.native arraycopyName ∈ jWS) (hsta : Cond.static arraycopyName ∈ jWS) (hini : Cond.initialized "java/lang/System" ∈ jWS) (hx0 : (jXs G)[x0]? = some (b0, n0, f)) (ha1 : ws[q1]? = some (a1, .inl (G.1 0, n1, .inl g))) (h1 : ¬ sp < 0) (h2 : ¬ dp < 0) (h3 : ¬ x < 0) (h4 : sp.toNatClampNeg + x.toNatClampNeg ≤ n0) (h5 : dp.toNatClampNeg + x.toNatClampNeg ≤ n1)
    (hst : (st.map fun v => v.category).sum ≤ 8) (hd : decode M.2.1 pc = .ok (.invokestatic ix, 3)) (hw : ws.set q1 (a1, .inl (G.1 0, n1, .inl (va_cpy f g sp.toNatClampNeg dp.toNatClampNeg x.toNatClampNeg))) = ws') (kk : J G M d mc ms P (pc + 3) lv st ws' k n) : J G M d mc ms P pc lv (.int x :: .int dp :: .ref a1 :: .int sp :: .ref b0 :: st) ws k n :=
  fun p l e s m args below meth c D A C H locs ls hP hD hS hl => by
    subst hw
    have hts := C.2.2.2.2.1
    have hR := jAcRoom (mc := mc) (ms := ms) (d := d) hst
    obtain ⟨z1, z2, z3⟩ := C.2.2.2.2.2.2.1.1 x0 _ hx0
    exact va_copyx C.1 C.2.1 (by rw [C.2.2.1]; exact hl.1.symm) C.2.2.2.1 (hts _ hk) (hts _ hnat) (hts _ hsta) (hts _ hini) C.2.2.2.2.2.1.1 hP hD hS z1 z2 z3 q1 0 ha1 rfl h1 h2 h3 h4 h5 hR.1 hR.2 hd (fun H1 locs1 hP1 hD1 hS1 => kk p l e s m args below meth c D A C H1 locs1 ls hP1 hD1 hS1 hl)
theorem j_getsS {ix : Nat} (hk : Cond.fieldLink M.1 ix jSha "START" "[I" ∈ jWS) (hd : decode M.2.1 pc = .ok (.getstatic ix, 3)) (kk : J G M d mc ms P (pc + 3) lv (.ref (G.2.1 0) :: st) ws k n) : J G M d mc ms P pc lv st ws k n :=
  fun p l e s m args below meth c D A C H locs ls hP hD hS hl => va_gets C.1 C.2.1 C.2.2.2.2.2.2.1.2.1 hS C.2.2.2.1 (C.2.2.2.2.1 _ hk) (fun _ h => h) hd (kk p l e s m args below meth c D A C H locs ls hP hD hS hl)
theorem j_getsK {ix : Nat} (hk : Cond.fieldLink M.1 ix jSha "ROUND_CONSTANTS" "[I" ∈ jWS) (hd : decode M.2.1 pc = .ok (.getstatic ix, 3)) (kk : J G M d mc ms P (pc + 3) lv (.ref (G.2.1 1) :: st) ws k n) : J G M d mc ms P pc lv st ws k n :=
  fun p l e s m args below meth c D A C H locs ls hP hD hS hl => va_gets C.1 C.2.1 C.2.2.2.2.2.2.1.2.2.1 hS C.2.2.2.1 (C.2.2.2.2.1 _ hk) (fun _ h => h) hd (kk p l e s m args below meth c D A C H locs ls hP hD hS hl)
theorem j_tabOut {dflt lo hi : Int} {offs : Array Int} {len tgt : Nat} {x : Int32} (hd : decode M.2.1 pc = .ok (.tableswitch dflt lo hi offs, len)) (h : x.toInt < lo ∨ hi < x.toInt) (ht : (pc : Int) + dflt = (tgt : Int)) (kk : J G M d mc ms P tgt lv st ws k n) : J G M d mc ms P pc lv (.int x :: st) ws k n :=
  fun p l e s m args below meth c D A C H locs ls hP hD hS hl => lv_tableOut C.1 C.2.1 hd h ht (kk p l e s m args below meth c D A C H locs ls hP hD hS hl)
theorem j_tabIn {dflt lo hi off : Int} {offs : Array Int} {len tgt : Nat} {x : Int32} (hd : decode M.2.1 pc = .ok (.tableswitch dflt lo hi offs, len)) (h1 : ¬ x.toInt < lo) (h2 : ¬ hi < x.toInt) (ho : offs[(x.toInt - lo).toNat]? = some off) (ht : (pc : Int) + off = (tgt : Int)) (kk : J G M d mc ms P tgt lv st ws k n) : J G M d mc ms P pc lv (.int x :: st) ws k n :=
  fun p l e s m args below meth c D A C H locs ls hP hD hS hl => lv_tableIn C.1 C.2.1 hd h1 h2 ho ht (kk p l e s m args below meth c D A C H locs ls hP hD hS hl)
end JN
end
section
/-! ===== new int[2][K] ===== -/
theorem jAOA.at {U s0 : State} {ty : FieldType} {a0 : Array Value} (hW : s0.WarmedH U.vm) (h : (Cond.arrayOver (.array ty)).before a0 s0 = true) : jAOA ty U := by
  have hvm := hW.alike
  simp only [Cond.before, Cond.holds, Cond.value, beq_iff_eq] at h
  cases hc : s0.vm.findClass (FieldType.array ty).toString with
  | none => simp [hc] at h
  | some comp =>
    simp only [hc, Option.bind_some, Option.bind_eq_some_iff, Option.map_eq_some_iff] at h
    obtain ⟨c, hi, k, hk, hb⟩ := h
    obtain ⟨k', hk', he⟩ := hvm.2.2 _ _ hk
    have hi' : (U.vm.classes.findIdx? fun (x : Class) => match x.kind with | .array component _ => component == comp | _ => false) = some c := by
      have e1 := va_idx_bare U.vm comp
      have e2 := va_idx_bare s0.vm comp
      have e3 : U.vm.bare = s0.vm.bare := by first | exact hvm.bare_eq | exact hvm.bare_eq.symm
      rw [e3] at e1
      exact e1.symm.trans (e2.trans hi)
    have hk2 : k'.kind = k.kind := by rw [he]
    simp only [jAOA, Cond.before, Cond.holds, Cond.value, beq_iff_eq]
    rw [hvm.findClass, hc, Option.bind_some]
    simp only [Option.bind_eq_some_iff, Option.map_eq_some_iff]
    refine ⟨c, hi', k', hk', ?_⟩
    rw [hk2]
    cases hkind : k.kind with
    | array component t9 =>
      rw [hkind] at hb
      simp only [hvm.findClass]
      exact hb
    | _ => rw [hkind] at hb; exact hb
section JNM
variable {G : jG} {M : jM} {d mc ms : Nat} {P : jR → va_W → Prop} {pc : Nat} {lv : List (Nat × Value)} {st : List Value} {ws : va_W} {k n : Nat}
theorem j_mna {ix K0 : Nat} {x : Int32} (hk : Cond.classLink M.1 ix ("[" ++ (FieldType.array .int).toString) ∈ jWS) (ho : Cond.arrayOver (.array .int) ∈ lw_tbl) (harr : Cond.arrayClass .int ∈ jWS) (hx : ¬ x < 0) (hK0 : x.toNatClampNeg = K0) (hb : K0 ≤ 1000) (hd : decode M.2.1 pc = .ok (.multianewarray ix 2, 4)) (hc : k + 3 ≤ mc) (hs : n + (2 + 2 * K0) ≤ ms)
    (kk : ∀ (q : Nat) (r : Nat → Nat), J G M d mc ms P (pc + 4) lv (.ref q :: st) (ws ++ [(q, .inl (G.1 6, 2, .inr (.inr (.inr (.inr (fun i => if i < 2 then some (r i) else none)))))), (r 0, .inl (G.1 0, K0, .inl (fun _ => 0))), (r 1, .inl (G.1 0, K0, .inl (fun _ => 0)))]) (k + 1 + 2) (n + 2 + 2 * K0)) : J G M d mc ms P pc lv (.int x :: .int 2 :: st) ws k n :=
  fun p l e s m args below meth c D A C H locs ls hP hD hS hl => by
    have hts := C.2.2.2.2.1
    have hK := C.2.2.2.2.2.1.1
    have hov : jAOA .int s := by
      obtain ⟨s0, a0, h1, h2⟩ := C.2.2.2.2.2.1.2
      exact jAOA.at h2 (h1 _ ho)
    have hcy : s.vm.findClass (FieldType.array .int).toString = some (G.1 0) := (hK.2 0 (G.1 0, .int) rfl).2
    refine va_mna (X := ws) (L := []) (f := fun _ => .inr (0, [])) (z := (K0, .inl (fun _ => 0))) (N' := 2) (K' := K0) C.1 C.2.1 C.2.2.2.1 (hts _ hk) hov (hts _ harr) hcy hK (by simpa [va_pl] using hP) (by simpa [va_pl] using hD) hS C.2.2.2.2.2.2.2.1 (by decide) hx (by decide) hK0 (by omega) (by show K0 * 4 ≤ 536870912; omega) (by omega) rfl rfl hc hs (fun c => ?_) hd (fun q r cA H1 hr1 hr2 hK1 hP1 hD1 hS1 => ?_)
    · rw [vp_cell_i]
      exact arrV_new _ _ _
    · have e1 : cA = G.1 6 := by
        have h1 : s.vm.findClass ("[" ++ (FieldType.array .int).toString) = some cA := (hK1.2 (jT G).length (cA, .array .int) (by simp)).2
        have h2 : s.vm.findClass ("[" ++ (FieldType.array .int).toString) = some (G.1 6) := (hK.2 6 (G.1 6, .array .int) rfl).2
        exact Option.some.inj (h1.symm.trans h2)
      subst e1
      have e2 : ∀ x0 : Nat × va_E, (ws ++ [x0]) ++ va_pl ([] ++ (List.range 2).map r) (vr_up (fun _ => .inr (0, [])) ((List.range 2).map r) (.inl (G.1 0, (K0, .inl (fun _ => 0))))) = ws ++ [x0, (r 0, .inl (G.1 0, K0, .inl (fun _ => 0))), (r 1, .inl (G.1 0, K0, .inl (fun _ => 0)))] := by
        intro x0
        simp [va_pl, vr_up, List.range, List.range.loop]
      rw [e2] at hP1 hD1
      exact kk q r p l e s m args below meth c D A C H1 locs ls hP1 hD1 hS1 hl
end JNM
end
section
/-! ===== throwing ===== -/
section JA
variable {p : Program} {l : Launch} {e : Env} {R : Room} {s : State} {m : MethodId} {args : Array Value} {below : List Frame} {meth : Method} {c : Code} {T : State} {locs : List Loc} {cells slots : Nat}
/-- behind the invoking instruction's own step: the callee comes back, or throws -/
theorem jBack {y : MethodName} {ws : List Cond} {rm : Room} {Pc : Array Value → State → Prop} {Qc : Array Value → State → Outcome → State → Prop} {mc ms : Nat} {free : Addr → Prop}
    (hM : jMet l y ws rm Pc Qc mc ms free) (X : Stand p l e R s m args below meth c T locs cells slots)
    {g : JFrame} (hg : g.method = m) (hsize : g.locals.size = c.maxLocals) {ig : Instr} {len : Nat} (hdg : decode c.code g.pc = .ok (ig, len))
    (hW : 2 * g.monitorRoom + (g.stack.map fun v => v.category).sum ≤ 8) {mk : MethodId} {a : Array Value} (hn : T.methodNamed? y = some mk)
    {methY : Method} {cY : Code} {maxL : Nat} (hmY : T.vm.method? mk = some methY) (hcY : methY.code = some cY) (hlY : cY.maxLocals = maxL)
    (hws : (allAtoms ws).before a T = true) (hini : (Cond.initialized y.cls).before a T = true)
    (hfr : rm.frames + 1 ≤ R.frames) (hlo : 8 + (maxL + 11) + rm.locals ≤ R.locals) (hrc : cells + rm.cells ≤ R.cells) (hrs : slots + rm.slots ≤ R.slots)
    (hP : Pc a (T.calling g mk a)) :
    ∃ (o : Outcome) (t T' : State) (L : List Loc), T'.heap = t.heap ∧ T'.vm = t.vm ∧ Qc a (T.calling g mk a) o t ∧ (∀ q ∈ L, free q.base) ∧
      Stand p l e R s m args below meth c T' (locs ++ L) (cells + mc) (slots + ms) ∧
      (∀ v, o = .returned v → Steps p.tables e below (doInvoke e (T.setTop g) [] mk a).1 (T'.setTop { g with pc := g.pc + len, stack := v.toList ++ g.stack })) ∧
      (∀ x, o = .threw x → Steps p.tables e below (doInvoke e (T.setTop g) [] mk a).1 ((T'.setTop g).pushFrame (.throwing x))) := by
  subst hg
  have h : At T g.method c below := X.here
  obtain ⟨kY, hkY, -⟩ := className_of_methodNamed hn
  have hinitY : kY.init = .initialized := Cond.initialized_spec (findClass_of_methodNamed hn) hkY hini
  have happ : (headSpec ws rm).appliesLoose y e.platform (T.calling g mk a) = true :=
    Spec.appliesLoose_calling (g := g) h hdg hn hkY hinitY (X.room_calling (g := g) (R' := rm) hsize hmY hcY hfr (by rw [hlY]; omega) hrc hrs) hws
  obtain ⟨mid, hmid⟩ := h.above
  have hfr' : (T.setTop g).frames = (.java g :: mid) ++ below := by rw [State.frames_setTop' g h.top, hmid]; rfl
  obtain ⟨o, t, hst, -, hend, hq9⟩ := Steps.callFree hM p X.admits X.cas X.clock (acts := []) hfr' happ hP trivial
  have hq8 : Qc a (T.calling g mk a) o t ∧ ∃ L, jFE (T.calling g mk a) t L mc ms ∧ ∀ q ∈ L, free q.base := hq9
  obtain ⟨hq, L, ⟨hWt, hsm⟩, hL⟩ := hq8
  rw [State.frames_setTop' g h.top] at hend
  obtain ⟨e2, q2, q3, q4, q5, q6⟩ := hsm
  have hW' : T.WarmedH t.vm := hWt
  have e3 : t = ({ (T.calling g mk a).setFrames t.frames with heap := t.heap, slotsUsed := t.slotsUsed } : State).setVm t.vm := by
    have h9 : t = ({ t with vm := (T.calling g mk a).vm } : State).setVm t.vm := rfl
    rw [e2] at h9
    exact h9
  obtain ⟨g₀, hg0⟩ := Option.isSome_iff_exists.mp h.top
  obtain ⟨r, hr⟩ := State.topJava?_eq_some.mp hg0
  have hr' : (({ T with heap := t.heap, slotsUsed := t.slotsUsed } : State).setVm t.vm).frames = .java g₀ :: r := hr
  have hsame : T.sameButNew ({ T with heap := t.heap, slotsUsed := t.slotsUsed } : State) L mc ms := by
    refine ⟨?_, q2, q3, q4, q5, q6⟩
    obtain ⟨z, hz, -⟩ := State.frames_cons hr
    show ({ T with heap := t.heap, slotsUsed := t.slotsUsed } : State) = { T.setFrames T.frames with heap := t.heap, slotsUsed := t.slotsUsed }
    rw [State.setFrames_self hz]
  refine ⟨o, t, ({ T with heap := t.heap, slotsUsed := t.slotsUsed } : State).setVm t.vm, L, rfl, rfl, hq, hL,
    ⟨X.admits, X.cas, X.clock, X.frames, X.room, X.hears, X.method, X.code, (X.here.setHeapUsed t.heap t.slotsUsed).setVm hW'.alike, X.tail, State.WarmedH.trans X.warmed hW', X.limits, X.bytes, X.same.trans (hsame.setVm s.vm)⟩, ?_, ?_⟩
  · intro v hv
    subst hv
    obtain ⟨c₂, i₂, len₂, hc₂, hd₂, hf₂⟩ := hend
    have hcc : c₂ = c := by
      have h1 : t.code? g.method = T.code? g.method := by rw [State.code?_eq, State.code?_eq, hW'.alike.method?]
      exact Option.some.inj (hc₂.symm.trans (h1.trans h.code))
    subst hcc
    have hlen : len₂ = len := by rw [hdg] at hd₂; cases hd₂; rfl
    subst hlen
    have hs₂ : t = (({ T with heap := t.heap, slotsUsed := t.slotsUsed } : State).setVm t.vm).setTop { g with pc := g.pc + len₂, stack := v.toList ++ g.stack } := by
      refine e3.trans ?_
      rw [hf₂, State.calling_eq h.top, State.setFrames_setFrames, State.setTop_of_frames _ hr', hr]
      rfl
    rw [← hs₂]
    exact hst
  · intro x hx
    subst hx
    have hf₂ : t.frames = .throwing x :: .java g :: T.frames.tail := hend
    have hs₂ : t = ((({ T with heap := t.heap, slotsUsed := t.slotsUsed } : State).setVm t.vm).setTop g).pushFrame (.throwing x) := by
      refine e3.trans ?_
      rw [hf₂, State.calling_eq h.top, State.setFrames_setFrames, State.pushFrame, State.frames_setTop _ hr', State.setTop_of_frames _ hr', State.setFrames_setFrames, hr]
      rfl
    rw [← hs₂]
    exact hst
end JA
/-- the words that a state of the run has: the good ones, and those on methods declared and classes castable -/
def jok (w : Cond) : Bool := goodWord w || (match w with | .declares _ => true | .castable .. => true | _ => false)
theorem jAt {U : State} {a : Array Value} {w : Cond} (h : jW0 U) (hw : w ∈ lw_tbl) (hk : jok w = true) : w.before a U = true := by
  obtain ⟨s0, a0, h1, h2⟩ := h
  have h3 := h1 w hw
  unfold jok at hk
  rcases Bool.or_eq_true_iff.mp hk with hk | hk
  · exact word_at h2 (good_of_word hk) h3
  · cases w with
    | declares x => exact va_Nw.use rfl (va_Nw.warmD h2 (va_Nw.of rfl h3))
    | castable x y => exact va_Nw.use rfl (va_Nw.warmC h2 (va_Nw.of rfl h3))
    | _ => cases hk
/-- what it takes to make and throw an E in the class own -/
def jEx (own : String) (ic : Nat) (E : String) : Prop := ∀ w ∈ Bundle.ownAtoms own ic E ["java/lang/RuntimeException", "java/lang/Exception"], (w = .laysStatic Bundle.tN "UNASSIGNED_STACK" Bundle.steD ∨ w = .laysStatic Bundle.tN "SUPPRESSED_SENTINEL" Bundle.listD ∨ w = .isRef (.static Bundle.tN "UNASSIGNED_STACK" Bundle.steD) ∨ w = .isRef (.static Bundle.tN "SUPPRESSED_SENTINEL" Bundle.listD)) ∨ (w ∈ lw_tbl ∧ jok w = true)
theorem jEx.at {own E : String} {ic : Nat} {A : Nat → Prop} {U : State} {a : Array Value} (h : jEx own ic E) (hW : jW0 U) (hT : jTh A U U.heap) : ∀ w ∈ Bundle.ownAtoms own ic E ["java/lang/RuntimeException", "java/lang/Exception"], w.before a U = true := by
  intro w hw
  rcases h w hw with (h1 | h1 | h1 | h1) | ⟨h1, h2⟩
  · rw [h1]; exact hT.1.lays
  · rw [h1]; exact hT.2.1.lays
  · rw [h1]; exact hT.1.ref
  · rw [h1]; exact hT.2.1.ref
  · exact jAt hW h1 h2
theorem jStr {U : State} {own tx : String} {i : Nat} (h : jW0 U) (hx : Cond.stringRef own i tx ∈ lw_tbl) : ∃ a, vk_R own i tx a U := by
  obtain ⟨s0, a0, h1, h2⟩ := h
  have h3 := h1 _ hx
  cases hc : s0.vm.findClass own with
  | none => simp [Cond.before, Cond.holds, Cond.value, hc] at h3
  | some c =>
    obtain ⟨k, cf, j, a', hk, hcf, hcp, -, hr, hev⟩ := Cond.stringRef_spec hc h3
    exact ⟨a', vk_R.warm h2 ⟨h3, hev⟩⟩
end
section
/-! ===== a throw, and calls that throw ===== -/
section JT
variable {p : Program} {l : Launch} {e : Env} {R : Room} {s : State} {m : MethodId} {args : Array Value} {below : List Frame} {meth : Method} {c : Code} {T : State} {locs : List Loc} {cells slots : Nat}
/-- the same point of the run, seen as if the method had been entered here -/
theorem jRebase (X : Stand p l e R s m args below meth c T locs cells slots) {R' : Room} (hf : R'.frames ≤ R.frames) (hl : R'.locals ≤ R.locals) (hc : cells + R'.cells ≤ R.cells) (hs : slots + R'.slots ≤ R.slots) :
    Stand p l e R' ((T.setVm s.vm).setFrames (.invoking m args :: below)) m args below meth c T [] 0 0 := by
  obtain ⟨g₀, hfr⟩ := X.frames_eq
  have hcur : (T.setVm s.vm).cur < (T.setVm s.vm).threads.size := State.cur_lt_of_frames hfr
  obtain ⟨z, hz, -⟩ := State.frames_cons hfr
  have hF : ((T.setVm s.vm).setFrames (.invoking m args :: below)).frames = .invoking m args :: below := State.frames_setFrames _ hcur
  have hroom := X.room
  have hsz := X.heapSize
  have hus := X.used
  have hbk : ((T.setVm s.vm).setFrames (.invoking m args :: below)).slotsTrue = true := X.book
  have hli : ∀ pl : Platform, pl = e.platform → pl.stackLimits ((T.setVm s.vm).setFrames (.invoking m args :: below)).me = pl.stackLimits s.me := fun pl h => by
    rw [State.stackLimits_setFrames, h]; exact X.limits
  have hby : ((T.setVm s.vm).setFrames (.invoking m args :: below)).me.stackBytes = s.me.stackBytes := by
    rw [State.stackBytes_setFrames]; exact X.bytes
  have hlo : ((T.setVm s.vm).setFrames (.invoking m args :: below)).localsInUse = s.localsInUse := by
    unfold State.localsInUse
    rw [hF, X.frames]
    rfl
  have hsame0 := (State.sameButNew.refl (T.setVm s.vm) hz)
  refine ⟨X.admits, X.cas, X.clock, hF, ?_, X.hears, X.method, X.code, X.here, X.tail, X.warmed, (hli e.platform rfl).symm ▸ X.limits, X.bytes.trans hby.symm ▸ rfl, ?_⟩
  · simp only [State.hasRoom, Bool.and_eq_true, decide_eq_true_eq] at hroom ⊢
    obtain ⟨⟨⟨⟨a1, a2, a3, a4, a5, a6⟩, b1⟩, c1⟩, d1⟩ := hroom
    rw [hli e.platform rfl, hby, hlo, hF]
    rw [X.frames] at a2 a3
    refine ⟨⟨⟨⟨by omega, by omega, by omega, by omega, by omega, a6⟩, ?_⟩, ?_⟩, hbk⟩
    · show T.heap.size + R'.cells ≤ _
      omega
    · show T.slotsUsed + R'.slots ≤ _
      omega
  · obtain ⟨e1, e2⟩ := hsame0
    refine ⟨?_, e2⟩
    show T.setVm s.vm = ({ ((T.setVm s.vm).setFrames (.invoking m args :: below)).setFrames (T.setVm s.vm).frames with heap := T.heap, slotsUsed := T.slotsUsed } : State)
    rw [State.setFrames_setFrames]
    exact e1
end JT
theorem jOld {s' U : State} {cells slots : Nat} (h : s'.sameButNew ({ U with vm := s'.vm } : State) [] cells slots) : s'.heap.size ≤ U.heap.size ∧ ∀ q : Nat, q < s'.heap.size → U.heap[q]? = s'.heap[q]? := by
  obtain ⟨-, h1, -, -, -, h2⟩ := h
  refine ⟨h1, fun q hq => ?_⟩
  obtain ⟨c', g1, g2, g3, g4⟩ := h2 q s'.heap[q] (Array.getElem?_eq_getElem hq)
  have g1' : U.heap[q]? = some c' := g1
  rw [g1', Array.getElem?_eq_getElem hq]
  have g5 : c'.slots = s'.heap[q].slots := by
    apply Array.ext_getElem?
    intro i
    exact g4 i (fun h => nomatch h)
  rw [g2, g5]
section JU
variable {G : jG} {M : jM} {d mc ms : Nat} {P : jR → va_W → Prop} {pc : Nat} {lv : List (Nat × Value)} {st : List Value} {ws : va_W} {k n : Nat}
/-- throw new E("text") -/
theorem j_throw {E tx : String} {ik is ic : Nat} (hE : Bundle.fit E = true) (hx : jEx M.1 ic E) (hk : Cond.classLink M.1 ik E ∈ lw_tbl) (hi6 : Cond.instantiable E 6 ∈ lw_tbl) (hini : Cond.initialized E ∈ lw_tbl) (hstr : Cond.stringRef M.1 is tx ∈ lw_tbl)
    (d0 : decode M.2.1 pc = .ok (.new ik, 3)) (d3 : decode M.2.1 (pc + 3) = .ok (.dup, 1)) (d4 : decode M.2.1 (pc + 4) = .ok (.ldc is, 2)) (d6 : decode M.2.1 (pc + 6) = .ok (.invokespecial ic, 3)) (d9 : decode M.2.1 (pc + 9) = .ok (.athrow, 1))
    (hh : M.2.2.2.2.2 = []) (hdd : 4 ≤ d) (hst : (st.map fun v => v.category).sum ≤ 8) (hc : k + 1 ≤ mc) (hs : n + 6 ≤ ms) (hp : P (.inr E) ws) : J G M d mc ms P pc lv st ws k n :=
  fun p l e s m args below meth c D A C H locs ls hP hD hS hl => by
    intro T hT X
    obtain ⟨hexec, hb, hml, hown, hts, hK, hZ, hA, hlocks, hret, hnm, hex, htr0, hns⟩ := C
    have htr : e.platform.stackTraces = false := (show e.platform.stackTraces = l.stackTraces by rw [X.admits.platform]).trans htr0
    have Y := jRebase X (R' := { frames := (jrm d mc ms).frames, locals := (jrm d mc ms).locals, cells := 1, slots := 6 }) (Nat.le_refl _) (Nat.le_refl _) (by show k + 1 ≤ mc; exact hc) (by show n + 6 ≤ ms; exact hs)
    generalize hs' : (T.setVm s.vm).setFrames (.invoking m args :: below) = s' at Y
    have hvm : s'.vm = s.vm := by rw [← hs']; rfl
    have hhp : s'.heap = H := by rw [← hs']; exact hT
    have hW0 : s.WarmedH s'.vm := by rw [hvm]; exact State.WarmedH.refl s
    have hW : jW0 s' := hK.2.moved hW0
    have hT' : jTh A s' s'.heap := by
      rw [hhp]
      exact (jZ.moved hW0.alike (jZ.kept hZ hS.1 hS.2.1)).2.2.2
    have hown' : s'.vm.findClass M.1 = some m.cls := by rw [hvm]; exact hown
    have hout : ∀ x ∈ c.exceptionTable.toList, covers x (pc + 9) = false := by
      intro x hx9
      rw [hh] at hex
      rw [List.map_eq_nil_iff.mp hex] at hx9
      cases hx9
    have hsize : ls.size = c.maxLocals := by rw [hml]; exact hl.1
    have hat := hx.at (a := args) hW hT'
    obtain ⟨vm₁, cX, kX, hfX, hkX, -, -, X₁, st1⟩ := Y.newCold hexec (own := M.1) (C := E) (index := ik) (n := 6) hown' (jAt hW hk rfl) (jAt hW hi6 rfl) (jAt hW hini rfl)
      (g := F0 m pc ls st) rfl (by rw [hb]; exact d0) (Nat.le_refl _) (Nat.le_refl _)
    obtain ⟨sa, hsa1, hsa2⟩ := jStr hW hstr
    generalize hT1 : (T.setVm vm₁).pushCell { cls := cX, slots := kX.instanceTypes.map defaultValue, vm := .none } = T1 at X₁ st1
    have hcA : T1.heap[T.heap.size]? = some (freshCell cX kX) := by rw [← hT1]; exact State.heap_pushCell_size _ _
    obtain ⟨U, hsteps, hrun, hend, hWU, hsame, ce, hce, hO⟩ := X₁.ctorThrowS hexec htr (own := M.1) (cls := E) (names := ["java/lang/RuntimeException", "java/lang/Exception"]) (ic := ic) hown' hE (by decide +kernel) hat (fun x h => nomatch h) hfX hkX hcA (by rw [hhp, hT]; exact Nat.le_refl _) (msg := .ref sa) rfl
      (g := { method := m, pc := pc + 6, locals := ls, stack := .ref sa :: .ref T.heap.size :: .ref T.heap.size :: st, locked := none }) rfl hsize rfl rfl (rest := st) rfl
      (by rw [hb]; exact d6) (by rw [hb]; exact d9) hout (by show 2 + 3 < d + 2; omega) (by
        have h8 : (st.map fun v => v.category).sum ≤ 8 := hst
        show 2 * 0 + ((Value.ref T.heap.size :: st).map fun v => v.category).sum + (13 * (2 + 1) + 42) ≤ 31 * d + 60
        simp only [List.map_cons, List.sum_cons, show (Value.ref T.heap.size).category = 1 from rfl]
        omega) hlocks
    obtain ⟨f1, f2⟩ := jOld hsame
    rw [hhp] at f1 f2
    have hWs : s.WarmedH U.vm := State.WarmedH.trans hW0 hWU
    refine ⟨U, ?_, .threw T.heap.size, hrun, hend, ⟨⟨.inr E, ws, ⟨T.heap.size, ce, rfl, hce, hO.vm, ?_⟩, hp, hP.kept (fun k9 x hx9 => f2 x.1 ((hP k9 x hx9).lt)), hD⟩, ?_⟩, locs, ⟨hWs, ?_⟩, hS.2.2⟩
    · refine st1 _ ?_
      show Steps p.tables e below (T1.setTop { method := m, pc := pc + 3, locals := ls, stack := .ref T.heap.size :: st, locked := none }) _
      have d3' : decode c.code (pc + 3) = .ok (.dup, 1) := by rw [hb]; exact d3
      have hcat : (Value.ref T.heap.size).category = 1 := rfl
      jvm_step X₁.here [X₁.here.top, hexec, d3', Value.category]
      exact X₁.ldcString hexec (own := M.1) (text := tx) (index := is) (a := sa) hown' hsa1 hsa2
        (g := { method := m, pc := pc + 4, locals := ls, stack := .ref T.heap.size :: .ref T.heap.size :: st, locked := none }) rfl (by rw [hb]; exact d4) _ hsteps
    · have h9 := hO.cls
      rw [hWU.alike.findClass]
      exact h9
    · refine ⟨Nat.le_trans hS.1 f1, fun q h1 h2 => ?_⟩
      rw [f2 q (Nat.lt_of_lt_of_le h1 hS.1)]
      exact hS.2.1 q h1 h2
    · subst hs'
      obtain ⟨e1, e2⟩ := hsame
      rw [State.setFrames_setFrames] at e1
      have h2 : (T.setVm s.vm).sameButNew ({ U with vm := s.vm } : State) [] (0 + 1) (0 + 6) := ⟨e1, e2⟩
      have h3 := X.same.trans h2
      rw [List.append_nil] at h3
      exact h3.mono hc hs
end JU
end
section
/-! ===== calls that throw; catches ===== -/
/-- as 'Finds', but the tables may become warmer on the way -/
def jFinds (e : Env) (s : State) (f : JFrame) (a : Addr) (h : Handler) (vm' : Vm) : Prop :=
  ∀ (Q : Handler → Pre) (E : CtlPost) (d : Bool) (acts : List Action), wp (findHandler f a) Q E e d acts s ↔ Q h d acts (s.setVm vm')
section JFH
variable {E : CtlPost} {e : Env} {d : Bool} {acts : List Action} {s : State} {f : JFrame} {a : Addr} {Q : Handler → Pre}
theorem jgo {x : ExceptionTableEntry} {t : List ExceptionTableEntry} {c : ClassId} {cell : Cell} {vm' : Vm} (hx : covers x f.pc = true) (h0 : x.catchType ≠ 0)
    (hg : (resolveClass f.method.cls x.catchType).Gives e.toSetting s.vm (.ok c) vm') (hsz : vm'.classes.size ≤ s.vm.classes.size) (hcell : s.heap[a]? = some cell) (hobj : ∀ k, cell.vm ≠ .statics k)
    (hk : ∃ k, vm'.classes[cell.cls]? = some k) (hc : ∃ k, vm'.classes[c]? = some k) :
    wp (findHandler.go f a (x :: t)) Q E e d acts s ↔
      if vm'.assignable cell.cls c = true then Q (.found x.handlerPc) d acts (s.setVm vm') else wp (findHandler.go f a t) Q E e d acts (s.setVm vm') := by
  simp only [covers] at hx
  obtain ⟨ha, ht⟩ := hg.op (op := VmOp.resolveClass f.method.cls x.catchType) rfl
  cases hfit : vm'.assignable cell.cls c <;>
    simp [findHandler.go, hx, h0, ha, ht, hsz, hcell, hobj, hk, hc, hfit, VmOp.dirties, VmOp.acts]
end JFH
theorem jstepCatch {e : Env} {s : State} {a : Addr} {f : JFrame} {r : List Frame} {pc : Nat} {vm' : Vm} (hfind : jFinds e s f a (.found pc) vm') :
    (stepThrowing e s a (.java f :: r)).Is ((s.setVm vm').setFrames (.java { f with pc := pc, stack := [.ref a] } :: r)) [] := by
  simp only [stepThrowing, searchFrame, vmDo]
  generalize hr : Sem.go _ e false [] s = res
  obtain ⟨as, rfl, ha⟩ := Sem.eq_ok_of hr (a := Handler.found pc) (s' := s.setVm vm') (acts' := []) (by simp [hfind _ _ _ _])
  exact ⟨rfl, ha⟩
theorem jcaught {tb : Tables} {e : Env} {s target : State} {g : JFrame} {c : Code} {below : List Frame} {a : Addr} {vm' : Vm} (h : At s g.method c below) {pc : Nat} (hfind : jFinds e ((s.setTop g).pushFrame (.throwing a)) g a (.found pc) vm')
    (hrest : Steps tb e below ((s.setVm vm').setTop { g with pc := pc, stack := [.ref a] }) target) : Steps tb e below ((s.setTop g).pushFrame (.throwing a)) target := by
  obtain ⟨hgo, hw⟩ := h.throwing a
  refine Steps.head hgo hw ?_
  rw [stepThread_throwing (frames_entered h.top _), (jstepCatch (s := (s.setTop g).pushFrame (.throwing a)) hfind).1]
  obtain ⟨g₀, hg⟩ := Option.isSome_iff_exists.mp h.top
  obtain ⟨r, hr⟩ := State.topJava?_eq_some.mp hg
  have hr2 : (s.setVm vm').frames = .java g₀ :: r := hr
  rw [State.setTop_of_frames _ hr2] at hrest
  rw [hr]
  have e1 : (((s.setTop g).pushFrame (.throwing a)).setVm vm').setFrames (.java { g with pc := pc, stack := [.ref a] } :: (Frame.java g₀ :: r).tail) = (s.setVm vm').setFrames (.java { g with pc := pc, stack := [.ref a] } :: r) := by
    rw [State.setTop_of_frames _ hr, State.pushFrame]
    show (((s.setFrames _).setFrames _).setFrames _).setVm vm' = _
    rw [State.setFrames_setFrames, State.setFrames_setFrames]
    rfl
  rw [e1]
  exact hrest
section JX
variable {G : jG} {M : jM} {d mc ms : Nat} {P : jR → va_W → Prop} {pc : Nat} {lv : List (Nat × Value)} {st : List Value} {ws : va_W} {k n : Nat}
/-- where a callee that throws leaves its caller -/
def jThr (G : jG) (P' : jR → va_W → Prop) (D : va_G) (A : Nat → Prop) (p : Program) (l : Launch) (e : Env) (R : Room) (s : State) (m : MethodId) (args : Array Value) (below : List Frame) (meth : Method) (c : Code) (T : State) (locs : List Loc) (k n : Nat) (g g0 : JFrame) : Prop :=
  ∃ (E : String) (x : Addr) (cell : Cell) (ws' : va_W) (T' : State) (Lc : List Loc), P' (.inr E) ws' ∧ va_P D vwCl ws' T'.heap ∧ va_D A ws' ∧ va_S A s.heap T'.heap (locs ++ Lc) ∧ T'.heap[x]? = some cell ∧ cell.vm = .none ∧ s.vm.findClass E = some cell.cls ∧ Stand p l e R s m args below meth c T' (locs ++ Lc) k n ∧
    ∀ target, Steps p.tables e below ((T'.setTop g0).pushFrame (.throwing x)) target → Steps p.tables e below (T.setTop g) target
theorem jThr.of {P' : jR → va_W → Prop} {mc' ms' nA d' : Nat} {y : MethodName} {M' : jM} {As' : List Value} {p : Program} {l : Launch} {e : Env} {s : State} {m : MethodId} {args : Array Value} {below : List Frame} {meth : Method} {c : Code} {D : va_G} {A : Nat → Prop} {H : Heap} {locs : List Loc} {ls : Array Slot} {T : State} {vm₁ : Vm} {mk : MethodId} {ig : Instr} {g : JFrame}
    (C : jC G M p l s m args meth c D A) (hP : va_P D vwCl ws H) (hD : va_D A ws) (hS : va_S A s.heap H locs) (hl : lv_has ls M.2.2.1 lv) (K : jCon G M' y d' mc' ms' As' ws P') (L : jL0 y M' nA) (hnr : ∀ v w, ¬ P' (.inl v) w) (hT : T.heap = H) (X₁ : Stand p l e (jrm d mc ms) s m args below meth c (T.setVm vm₁) locs k n)
    (hd : decode M.2.1 pc = .ok (ig, 3)) (hst : (st.map fun v => v.category).sum ≤ 8) (hdd : d' + 1 ≤ d) (hm : k + mc' ≤ mc) (hn2 : n + ms' ≤ ms) (hnamed : s.methodNamed? y = some mk)
    (hstep : ∀ target, (∀ acts, Steps p.tables e below (doInvoke e ((T.setVm vm₁).setTop (F0 m pc ls st)) acts mk As'.toArray).1 target) → Steps p.tables e below (T.setTop g) target) :
    jThr G P' D A p l e (jrm d mc ms) s m args below meth c T locs (k + mc') (n + ms') g (F0 m pc ls st) := by
  obtain ⟨hexec, hb, hml, hown, hts, hK, hZ, hA, hlocks, hret, hnm, hex, htr0, hns⟩ := C
  have hR := jRoom (mc := mc) (ms := ms) (mc' := mc') (ms' := ms') hdd L.2.2.2.2
  obtain ⟨methM, cM, hmM, hcM, -, hlM, -, -, -, hsigM⟩ := Cond.code_spec hnamed (hts _ L.1)
  have hW₁ := X₁.warmed
  have hsub : ∀ q, va_A ws H.size q → A q := by
    intro q hq
    rcases hq with ⟨k, e, h⟩ | h
    · exact hD.2 k (q, e) h
    · exact hA q (Nat.le_trans hS.1 h)
  obtain ⟨o, t, T', Lc, e1, e2, hq, hL, X', -, hthr⟩ := jBack (K l D H.size htr0) X₁ (g := F0 m pc ls st) rfl (hl.1.trans hml.symm) (by rw [hb]; exact hd) (lv_room hst) (X₁.named hnamed) (a := As'.toArray) (methY := methM) (cY := cM) (maxL := M'.2.2.1)
    (show (T.setVm vm₁).vm.method? mk = some methM by rw [hW₁.alike.method?]; exact hmM) hcM hlM (atoms_intro fun w hw => L.pay hts w hw _ _ hW₁) (word_at hW₁ (jgood _ L.2.1) (hts _ L.2.1)) hR.1 hR.2 hm hn2
    (jPc.blind _ _ _ _ (jPc.at hK hZ hA hP hD hS (U := T.setVm vm₁) hT hW₁))
  obtain ⟨⟨r, ws', hout, hp, hP1, hD1⟩, hz, hkp⟩ := hq
  have hz' : H.size ≤ t.heap.size := by rw [← hT]; exact hz
  have hkp' : ∀ q : Nat, q < H.size → ¬ va_A ws H.size q → t.heap[q]? = H[q]? := fun q h1 h2 => by
    have := hkp q (by show q < T.heap.size; rw [hT]; exact h1) h2
    rw [this]
    show T.heap[q]? = _
    rw [hT]
  cases r with
  | inl v => exact absurd hp (hnr v ws')
  | inr E =>
    obtain ⟨x, cell, ho, hcell, hcv, hcl⟩ := hout
    refine ⟨E, x, cell, ws', T', Lc, hp, by rw [e1]; exact hP1, hD1.weaken (fun _ q _ h => hsub q.1 h), ⟨Nat.le_trans hS.1 (by rw [e1]; exact hz'), fun q h1 h2 => ?_, fun q hq => ?_⟩, by rw [e1]; exact hcell, hcv, ?_, X', fun target h => hstep _ fun acts => ?_⟩
    · rw [e1, hkp' q (Nat.lt_of_lt_of_le h1 hS.1) (fun z => h2 (hsub q z))]
      exact hS.2.1 q h1 h2
    · rcases List.mem_append.mp hq with h | h
      · exact hS.2.2 q h
      · exact hsub _ (hL q h)
    · have h9 := X'.warmed.alike.findClass E
      rw [e2] at h9
      rw [← h9]
      exact hcl
    · rw [doInvoke_state]
      exact (hthr x ho).trans h
theorem jThr.callV {ix nA d' mc' ms' b ci q0 : Nat} {y : MethodName} {M' : jM} {C0 : String} {T0 : u_T} {N0 : Nat} {fs As stk : List Value} {P' : jR → va_W → Prop} {p : Program} {l : Launch} {e : Env} {s : State} {m : MethodId} {args : Array Value} {below : List Frame} {meth : Method} {c : Code} {D : va_G} {A : Nat → Prop} {H : Heap} {locs : List Loc} {ls : Array Slot} {T : State}
    (C : jC G M p l s m args meth c D A) (hP : va_P D vwCl ws H) (hD : va_D A ws) (hS : va_S A s.heap H locs) (hl : lv_has ls M.2.2.1 lv) (K : jCon G M' y d' mc' ms' (.ref b :: As) ws P') (L : jL0 y M' nA) (hnr : ∀ v w, ¬ P' (.inl v) w) (hk : Cond.methodLink M.1 ix y ∈ jWS) (hi : Cond.instanceMethod y ∈ jWS) (hs : Cond.selects C0 y y ∈ jWS) (he : ws[q0]? = some (b, .inr (ci, fs))) (hc : vwCl[ci]? = some (C0, T0, N0))
    (hd : decode M.2.1 pc = .ok (.invokevirtual ix, 3)) (hn : As.length = nA) (hst : (st.map fun v => v.category).sum ≤ 8) (hdd : d' + 1 ≤ d) (hm : k + mc' ≤ mc) (hn2 : n + ms' ≤ ms) (hstk : stk = As.reverse ++ .ref b :: st) (hT : T.heap = H) (X : Stand p l e (jrm d mc ms) s m args below meth c T locs k n) :
    jThr G P' D A p l e (jrm d mc ms) s m args below meth c T locs (k + mc') (n + ms') (F0 m pc ls stk) (F0 m pc ls st) := by
  have hts := C.2.2.2.2.1
  obtain ⟨mk, methM, hnamed, hmethM, hstM, habM⟩ := Cond.instanceMethod_spec (hts _ hi)
  obtain ⟨methM', cM, hmethM', -, -, -, -, -, -, hsigM⟩ := Cond.code_spec hnamed (hts _ L.1)
  cases hmethM.symm.trans hmethM'
  obtain ⟨c2, r2, m2, q1, q2, q3, q4, kP, hkP, hkPi⟩ := Cond.selects_spec (hts _ hs)
  obtain ⟨cellB, hcB, hoB, hclB⟩ := va_recv C.2.2.2.2.2.1.1 hP hc he
  cases hclB.symm.trans q1
  cases (State.methodFound?_of_named hnamed L.2.2.1).symm.trans q2
  cases hnamed.symm.trans q3
  have hselP : selectMethod e.platform s.vm cellB.cls mk = .method mk := by rw [Launch.admits_selectMethod X.admits]; exact q4
  obtain ⟨vm₁, X₁, hstep₁⟩ := X.invokevirtual C.1 C.2.2.2.1 (hts _ hk) hnamed hmethM hstM hkP hkPi L.2.2.1 (a := b) (cell := cellB) (by rw [hT]; exact hcB)
    (fun z h => by rw [h] at hoB; cases hoB) hselP hmethM habM hkP hkPi (g := F0 m pc ls stk) rfl (argsL := As) (rest := st) (by rw [hn]; exact L.len _ hsigM) hstk (by rw [C.2.1]; exact hd)
  exact jThr.of C hP hD hS hl K L hnr hT X₁ hd hst hdd hm hn2 hnamed hstep₁
theorem jThr.callS {ix nA d' mc' ms' : Nat} {y : MethodName} {M' : jM} {As stk : List Value} {P' : jR → va_W → Prop} {p : Program} {l : Launch} {e : Env} {s : State} {m : MethodId} {args : Array Value} {below : List Frame} {meth : Method} {c : Code} {D : va_G} {A : Nat → Prop} {H : Heap} {locs : List Loc} {ls : Array Slot} {T : State}
    (C : jC G M p l s m args meth c D A) (hP : va_P D vwCl ws H) (hD : va_D A ws) (hS : va_S A s.heap H locs) (hl : lv_has ls M.2.2.1 lv) (K : jCon G M' y d' mc' ms' As ws P') (L : jL0 y M' nA) (hnr : ∀ v w, ¬ P' (.inl v) w) (hk : Cond.methodLink M.1 ix y ∈ jWS) (hi : Cond.static y ∈ jWS)
    (hd : decode M.2.1 pc = .ok (.invokestatic ix, 3)) (hn : As.length = nA) (hst : (st.map fun v => v.category).sum ≤ 8) (hdd : d' + 1 ≤ d) (hm : k + mc' ≤ mc) (hn2 : n + ms' ≤ ms) (hstk : stk = As.reverse ++ st) (hT : T.heap = H) (X : Stand p l e (jrm d mc ms) s m args below meth c T locs k n) :
    jThr G P' D A p l e (jrm d mc ms) s m args below meth c T locs (k + mc') (n + ms') (F0 m pc ls stk) (F0 m pc ls st) := by
  have hts := C.2.2.2.2.1
  obtain ⟨mk, hnamed⟩ := Cond.code_named (hts _ L.1)
  obtain ⟨methM, cM, hmethM, -, -, -, -, -, -, hsigM⟩ := Cond.code_spec hnamed (hts _ L.1)
  have hstatic : methM.isStatic = true := Cond.static_spec hnamed hmethM (hts _ hi)
  obtain ⟨kP, hkP, -⟩ := className_of_methodNamed hnamed
  have hinitP : kP.init = .initialized := Cond.initialized_spec (findClass_of_methodNamed hnamed) hkP (hts _ L.2.1)
  obtain ⟨vm₁, X₁, hstep₁⟩ := X.invokestatic C.1 C.2.2.2.1 (hts _ hk) hnamed hmethM hstatic hkP hinitP L.2.2.1 (g := F0 m pc ls stk) rfl (argsL := As) (rest := st) (by rw [hn]; exact L.len _ hsigM) hstk (by rw [C.2.1]; exact hd)
  exact jThr.of C hP hD hS hl K L hnr hT X₁ hd hst hdd hm hn2 hnamed hstep₁
/-- out of a method without handlers -/
theorem jThr.out {P' : jR → va_W → Prop} {p : Program} {l : Launch} {e : Env} {s : State} {m : MethodId} {args : Array Value} {below : List Frame} {meth : Method} {c : Code} {D : va_G} {A : Nat → Prop} {locs : List Loc} {ls : Array Slot} {T : State} {g : JFrame} {k' n' : Nat} (C : jC G M p l s m args meth c D A) (hh : M.2.2.2.2.2 = []) (hp : ∀ E w, P' (.inr E) w → P (.inr E) w) (hk : k' ≤ mc) (hn : n' ≤ ms)
    (h : jThr G P' D A p l e (jrm d mc ms) s m args below meth c T locs k' n' g (F0 m pc ls st)) : ∃ t, Steps p.tables e below (T.setTop g) t ∧ jMQ below (jPost P D A) args s mc ms A t := by
  obtain ⟨E, x, cell, ws', T', Lc, h1, h2, h3, h4, h5, h6, h7, X', hst⟩ := h
  obtain ⟨hexec, hb, hml, hown, hts, hK, hZ, hA, hlocks, hret, hnm, hex, htr0, hns⟩ := C
  have hout : ∀ y ∈ c.exceptionTable.toList, covers y pc = false := by
    intro y hy
    rw [hh] at hex
    rw [List.map_eq_nil_iff.mp hex] at hy
    cases hy
  obtain ⟨l1, l2, l3, l4, l5⟩ := X'.leaveThrown x (g := F0 m pc ls st) rfl rfl rfl hout hlocks
  refine ⟨_, hst _ l1, .threw x, l2, l3, ⟨⟨.inr E, ws', ⟨x, cell, rfl, h5, h6, ?_⟩, hp E ws' h1, h2, h3⟩, h4.F rfl⟩, locs ++ Lc, ⟨l4, l5.mono hk hn⟩, h4.2.2⟩
  rw [l4.alike.findClass]
  exact h7
theorem j_thrV {ix nA d' mc' ms' b ci : Nat} {y : MethodName} {M' : jM} {C0 : String} {T0 : u_T} {N0 : Nat} {fs As stk : List Value} {P' : jR → va_W → Prop} (K : jCon G M' y d' mc' ms' (.ref b :: As) ws P') (L : jL0 y M' nA) (hnr : ∀ v w, ¬ P' (.inl v) w) (hk : Cond.methodLink M.1 ix y ∈ jWS) (hi : Cond.instanceMethod y ∈ jWS) (hs : Cond.selects C0 y y ∈ jWS) (q0 : Nat) (he : ws[q0]? = some (b, .inr (ci, fs))) (hc : vwCl[ci]? = some (C0, T0, N0))
    (hd : decode M.2.1 pc = .ok (.invokevirtual ix, 3)) (hn : As.length = nA) (hst : (st.map fun v => v.category).sum ≤ 8) (hdd : d' + 1 ≤ d) (hm : k + mc' ≤ mc) (hn2 : n + ms' ≤ ms) (hstk : stk = As.reverse ++ .ref b :: st) (hh : M.2.2.2.2.2 = []) (hp : ∀ E w, P' (.inr E) w → P (.inr E) w) : J G M d mc ms P pc lv stk ws k n :=
  fun p l e s m args below meth c D A C H locs ls hP hD hS hl T hT X => jThr.out C hh hp hm hn2 (jThr.callV C hP hD hS hl K L hnr hk hi hs he hc hd hn hst hdd hm hn2 hstk hT X)
theorem j_thrS {ix nA d' mc' ms' : Nat} {y : MethodName} {M' : jM} {As stk : List Value} {P' : jR → va_W → Prop} (K : jCon G M' y d' mc' ms' As ws P') (L : jL0 y M' nA) (hnr : ∀ v w, ¬ P' (.inl v) w) (hk : Cond.methodLink M.1 ix y ∈ jWS) (hi : Cond.static y ∈ jWS)
    (hd : decode M.2.1 pc = .ok (.invokestatic ix, 3)) (hn : As.length = nA) (hst : (st.map fun v => v.category).sum ≤ 8) (hdd : d' + 1 ≤ d) (hm : k + mc' ≤ mc) (hn2 : n + ms' ≤ ms) (hstk : stk = As.reverse ++ st) (hh : M.2.2.2.2.2 = []) (hp : ∀ E w, P' (.inr E) w → P (.inr E) w) : J G M d mc ms P pc lv stk ws k n :=
  fun p l e s m args below meth c D A C H locs ls hP hD hS hl T hT X => jThr.out C hh hp hm hn2 (jThr.callS C hP hD hS hl K L hnr hk hi hd hn hst hdd hm hn2 hstk hT X)
end JX
end
section
/-! ===== into a handler ===== -/
theorem jClassAt {s : State} {vm' : Vm} (hW : s.WarmedH vm') {nm : String} {c : ClassId} (h : s.vm.findClass nm = some c) : ∃ k, vm'.classes[c]? = some k := by
  obtain ⟨k, hk⟩ := Vm.classAt_of_findClass h
  obtain ⟨k', hk', -⟩ := hW.alike.2.2 _ _ hk
  exact ⟨k', hk'⟩
section JY
variable {G : jG} {M : jM} {d mc ms : Nat} {P : jR → va_W → Prop} {pc : Nat} {lv : List (Nat × Value)} {st : List Value} {ws : va_W} {k n : Nat}
theorem jThr.cat1 {P' : jR → va_W → Prop} {E : String} {s1 e1 h1 c1 : Nat} {hr : List (Nat × Nat × Nat × Nat)} {p : Program} {l : Launch} {e : Env} {s : State} {m : MethodId} {args : Array Value} {below : List Frame} {meth : Method} {c : Code} {D : va_G} {A : Nat → Prop} {locs : List Loc} {ls : Array Slot} {T : State} {g : JFrame} {k' n' : Nat} (C : jC G M p l s m args meth c D A) (hl : lv_has ls M.2.2.1 lv) (hh : M.2.2.2.2.2 = (s1, e1, h1, c1) :: hr) (hc1 : s1 ≤ pc ∧ pc < e1 ∧ c1 ≠ 0) (hk : Cond.classLink M.1 c1 E ∈ lw_tbl) (hca : Cond.castable E E ∈ lw_tbl) (hE : ∀ E' w, P' (.inr E') w → E' = E)
    (h : jThr G P' D A p l e (jrm d mc ms) s m args below meth c T locs k' n' g (F0 m pc ls st)) (kk : ∀ (x : Nat) (ws' : va_W), P' (.inr E) ws' → J G M d mc ms P h1 lv [.ref x] ws' k' n') : ∃ t, Steps p.tables e below (T.setTop g) t ∧ jMQ below (jPost P D A) args s mc ms A t := by
  obtain ⟨E', x, cell, ws', T', Lc, h1', h2, h3, h4, h5, h6, h7, X', hst⟩ := h
  cases hE E' ws' h1'
  have C' := C
  obtain ⟨hexec, hb, hml, hown, hts, hK, hZ, hA, hlocks, hret, hnm, hex, htr0, hns⟩ := C
  have hpl : e.platform.magicAccessors = ({} : Platform).magicAccessors := by rw [X'.admits.platform]
  rw [hh] at hex
  obtain ⟨x1, t1, hsp, hx1, -⟩ := List.map_eq_cons_iff.mp hex
  obtain ⟨y1, y2, y3, y4⟩ : x1.startPc = s1 ∧ x1.endPc = e1 ∧ x1.handlerPc = h1 ∧ x1.catchType = c1 := by
    simp only [Prod.mk.injEq] at hx1
    exact hx1
  obtain ⟨cc, hfc, hcl⟩ := Cond.classLink_spec hown (jAt (a := args) hK.2 hk rfl) e.platform hpl
  obtain ⟨hg₁, hw₁, hr₁⟩ := State.classEntry (e := e) X'.warmed hcl
  obtain ⟨a1, a2, b1, b2, hasg⟩ := Cond.castable_spec (jAt (a := args) hK.2 hca rfl)
  cases Option.some.inj (b1.symm.trans h7)
  cases Option.some.inj (b2.symm.trans hfc)
  generalize hvm : T'.vm.noted m.cls c1 (.cls cc) = vm' at hg₁ hw₁ hr₁
  have hfind : jFinds e ((T'.setTop (F0 m pc ls st)).pushFrame (.throwing x)) (F0 m pc ls st) x (.found h1) vm' := by
    intro Q E9 d9 acts
    have v1 := Stand.throwing_vm T' (F0 m pc ls st) x
    have v2 := Stand.throwing_heap T' (F0 m pc ls st) x
    rw [W.findHandler_eq (meth := meth) (code := c) (by rw [v1]; exact X'.method') X'.code, hsp,
      jgo (x := x1) (c := cc) (cell := cell) (vm' := vm') (by simp [covers, y1, y2]; exact ⟨hc1.1, hc1.2.1⟩) (by rw [y4]; exact hc1.2.2) (by rw [v1, y4]; exact hg₁) (by rw [v1, hw₁.2.1, X'.warmed.2.1]; exact Nat.le_refl _) (by rw [v2]; exact h5) (fun k9 => by rw [h6]; exact fun q => by cases q) (jClassAt hw₁ h7) (jClassAt hw₁ hfc), if_pos (by rw [hw₁.alike.assignable]; exact hasg), y3]
  obtain ⟨t, a3, b3⟩ := kk x ws' h1' p l e s m args below meth c D A C' T'.heap (locs ++ Lc) ls h2 h3 h4 hl (T'.setVm vm') rfl (X'.noted hw₁)
  exact ⟨t, hst _ (jcaught (g := F0 m pc ls st) X'.here hfind a3), b3⟩
theorem jThr.cat2 {P' : jR → va_W → Prop} {E E1 : String} {s1 e1 h1 c1 s2 e2 h2 c2 : Nat} {hr : List (Nat × Nat × Nat × Nat)} {p : Program} {l : Launch} {e : Env} {s : State} {m : MethodId} {args : Array Value} {below : List Frame} {meth : Method} {c : Code} {D : va_G} {A : Nat → Prop} {locs : List Loc} {ls : Array Slot} {T : State} {g : JFrame} {k' n' : Nat} (C : jC G M p l s m args meth c D A) (hl : lv_has ls M.2.2.1 lv) (hh : M.2.2.2.2.2 = (s1, e1, h1, c1) :: (s2, e2, h2, c2) :: hr) (hc1 : s1 ≤ pc ∧ pc < e1 ∧ c1 ≠ 0) (hc2 : s2 ≤ pc ∧ pc < e2 ∧ c2 ≠ 0) (hk1 : Cond.classLink M.1 c1 E1 ∈ lw_tbl) (hk2 : Cond.classLink M.1 c2 E ∈ lw_tbl) (hnc : va_Nc E E1 s) (hca : Cond.castable E E ∈ lw_tbl) (hE : ∀ E' w, P' (.inr E') w → E' = E)
    (h : jThr G P' D A p l e (jrm d mc ms) s m args below meth c T locs k' n' g (F0 m pc ls st)) (kk : ∀ (x : Nat) (ws' : va_W), P' (.inr E) ws' → J G M d mc ms P h2 lv [.ref x] ws' k' n') : ∃ t, Steps p.tables e below (T.setTop g) t ∧ jMQ below (jPost P D A) args s mc ms A t := by
  obtain ⟨E', x, cell, ws', T', Lc, h1', g2, g3, g4, g5, g6, g7, X', hst⟩ := h
  cases hE E' ws' h1'
  have C' := C
  obtain ⟨hexec, hb, hml, hown, hts, hK, hZ, hA, hlocks, hret, hnm, hex, htr0, hns⟩ := C
  have hpl : e.platform.magicAccessors = ({} : Platform).magicAccessors := by rw [X'.admits.platform]
  rw [hh] at hex
  obtain ⟨x1, t1, hsp, hx1, hex2⟩ := List.map_eq_cons_iff.mp hex
  obtain ⟨x2, t2, hsp2, hx2, -⟩ := List.map_eq_cons_iff.mp hex2
  obtain ⟨y1, y2, y3, y4⟩ : x1.startPc = s1 ∧ x1.endPc = e1 ∧ x1.handlerPc = h1 ∧ x1.catchType = c1 := by
    simp only [Prod.mk.injEq] at hx1
    exact hx1
  obtain ⟨z1, z2, z3, z4⟩ : x2.startPc = s2 ∧ x2.endPc = e2 ∧ x2.handlerPc = h2 ∧ x2.catchType = c2 := by
    simp only [Prod.mk.injEq] at hx2
    exact hx2
  obtain ⟨cc1, hfc1, hcl1⟩ := Cond.classLink_spec hown (jAt (a := args) hK.2 hk1 rfl) e.platform hpl
  obtain ⟨hg₁, hw₁, hr₁⟩ := State.classEntry (e := e) X'.warmed hcl1
  generalize hvm : T'.vm.noted m.cls c1 (.cls cc1) = vm1 at hg₁ hw₁ hr₁
  obtain ⟨cc2, hfc2, hcl2⟩ := Cond.classLink_spec hown (jAt (a := args) hK.2 hk2 rfl) e.platform hpl
  obtain ⟨hg₂, hw₂, hr₂⟩ := State.classEntry (e := e) hw₁ hcl2
  generalize hvm2 : vm1.noted m.cls c2 (.cls cc2) = vm2 at hg₂ hw₂ hr₂
  obtain ⟨a1, a2, b1, b2, hasg⟩ := Cond.castable_spec (jAt (a := args) hK.2 hca rfl)
  cases Option.some.inj (b1.symm.trans g7)
  cases Option.some.inj (b2.symm.trans hfc2)
  obtain ⟨n1, n2, m1, m2, hno⟩ := hnc
  cases Option.some.inj (m1.symm.trans g7)
  cases Option.some.inj (m2.symm.trans hfc1)
  have hfind : jFinds e ((T'.setTop (F0 m pc ls st)).pushFrame (.throwing x)) (F0 m pc ls st) x (.found h2) vm2 := by
    intro Q E9 d9 acts
    have v1 := Stand.throwing_vm T' (F0 m pc ls st) x
    have v2 := Stand.throwing_heap T' (F0 m pc ls st) x
    rw [W.findHandler_eq (meth := meth) (code := c) (by rw [v1]; exact X'.method') X'.code, hsp, hsp2,
      jgo (x := x1) (c := cc1) (cell := cell) (vm' := vm1) (by simp [covers, y1, y2]; exact ⟨hc1.1, hc1.2.1⟩) (by rw [y4]; exact hc1.2.2) (by rw [v1, y4]; exact hg₁) (by rw [v1, hw₁.2.1, X'.warmed.2.1]; exact Nat.le_refl _) (by rw [v2]; exact g5) (fun k9 => by rw [g6]; exact fun q => by cases q) (jClassAt hw₁ g7) (jClassAt hw₁ hfc1), if_neg (by rw [hw₁.alike.assignable, hno]; exact Bool.false_ne_true),
      jgo (x := x2) (c := cc2) (cell := cell) (vm' := vm2) (by simp [covers, z1, z2]; exact ⟨hc2.1, hc2.2.1⟩) (by rw [z4]; exact hc2.2.2) (by rw [z4]; exact hg₂) (by show vm2.classes.size ≤ vm1.classes.size; rw [hw₂.2.1, hw₁.2.1]; exact Nat.le_refl _) (by show ((T'.setTop (F0 m pc ls st)).pushFrame (.throwing x)).heap[x]? = _; rw [v2]; exact g5) (fun k9 => by rw [g6]; exact fun q => by cases q) (jClassAt hw₂ g7) (jClassAt hw₂ hfc2), if_pos (by rw [hw₂.alike.assignable]; exact hasg), z3]
    rfl
  obtain ⟨t, a3, b3⟩ := kk x ws' h1' p l e s m args below meth c D A C' T'.heap (locs ++ Lc) ls g2 g3 g4 hl (T'.setVm vm2) rfl (X'.noted hw₂)
  exact ⟨t, hst _ (jcaught (g := F0 m pc ls st) X'.here hfind a3), b3⟩
end JY
end
section
/-! ===== short forms of the rows, for contracts that make nothing ===== -/
section JS
variable {G : jG} {M : jM} {d mc ms : Nat} {P : jR → va_W → Prop} {pc : Nat} {lv lv' : List (Nat × Value)} {st st2 : List Value} {ws : va_W} {k n : Nat}
theorem j_pick (ks : List Nat) (h : lv_pick lv ks = lv') (kk : J G M d mc ms P pc lv' st ws k n) : J G M d mc ms P pc lv st ws k n :=
  fun p l e s m args below meth c D A C H locs ls hP hD hS hl => kk p l e s m args below meth c D A C H locs ls hP hD hS (lv_sub hl ks h)
theorem jc_V {ix nA d' b ci : Nat} {y : MethodName} {M' : jM} {C0 : String} {T0 : u_T} {N0 : Nat} {fs As stk : List Value} {r : Option Value} {w : va_W} (K : jCon G M' y d' 0 0 (.ref b :: As) ws (jEq r w)) (L : jL0 y M' nA) (hk : Cond.methodLink M.1 ix y ∈ jWS) (hi : Cond.instanceMethod y ∈ jWS) (hs : Cond.selects C0 y y ∈ jWS) (q0 : Nat) (he : ws[q0]? = some (b, .inr (ci, fs))) (hc : vwCl[ci]? = some (C0, T0, N0))
    (hd : decode M.2.1 pc = .ok (.invokevirtual ix, 3)) (hn : As.length = nA) (hst : (st.map fun v => v.category).sum ≤ 8) (hdd : d' + 1 ≤ d) (hm : k ≤ mc) (hn2 : n ≤ ms) (hstk : stk = As.reverse ++ .ref b :: st) (hr : r.toList ++ st = st2) (kk : J G M d mc ms P (pc + 3) lv st2 w k n) : J G M d mc ms P pc lv stk ws k n :=
  j_callV K L hk hi hs q0 he hc hd hn hst hdd hm hn2 hstk (fun _ _ h => by cases h.1) (fun v ws' h => by
    obtain ⟨h1, h2⟩ := h
    cases h1
    subst h2
    subst hr
    exact kk)
theorem jc_S {ix nA d' : Nat} {y : MethodName} {M' : jM} {As stk : List Value} {r : Option Value} {w : va_W} (K : jCon G M' y d' 0 0 As ws (jEq r w)) (L : jL0 y M' nA) (hk : Cond.methodLink M.1 ix y ∈ jWS) (hi : Cond.static y ∈ jWS)
    (hd : decode M.2.1 pc = .ok (.invokestatic ix, 3)) (hn : As.length = nA) (hst : (st.map fun v => v.category).sum ≤ 8) (hdd : d' + 1 ≤ d) (hm : k ≤ mc) (hn2 : n ≤ ms) (hstk : stk = As.reverse ++ st) (hr : r.toList ++ st = st2) (kk : J G M d mc ms P (pc + 3) lv st2 w k n) : J G M d mc ms P pc lv stk ws k n :=
  j_callS K L hk hi hd hn hst hdd hm hn2 hstk (fun _ _ h => by cases h.1) (fun v ws' h => by
    obtain ⟨h1, h2⟩ := h
    cases h1
    subst h2
    subst hr
    exact kk)
theorem jc_SN {ix nA d' : Nat} {y : MethodName} {M' : jM} {host : String} {As stk : List Value} {r : Option Value} {w : va_W} (K : jCon G M' y d' 0 0 As ws (jEq r w)) (L : jL0 y M' nA) (hk : Cond.methodLinkNest M.1 ix y host ∈ lw_tbl) (hi : Cond.static y ∈ jWS)
    (hd : decode M.2.1 pc = .ok (.invokestatic ix, 3)) (hn : As.length = nA) (hst : (st.map fun v => v.category).sum ≤ 8) (hdd : d' + 1 ≤ d) (hm : k ≤ mc) (hn2 : n ≤ ms) (hstk : stk = As.reverse ++ st) (hr : r.toList ++ st = st2) (kk : J G M d mc ms P (pc + 3) lv st2 w k n) : J G M d mc ms P pc lv stk ws k n :=
  j_callSN K L hk hi hd hn hst hdd hm hn2 hstk (fun _ _ h => by cases h.1) (fun v ws' h => by
    obtain ⟨h1, h2⟩ := h
    cases h1
    subst h2
    subst hr
    exact kk)
theorem jc_U {ix nA d' b ci : Nat} {x y : MethodName} {M' : jM} {C0 : String} {T0 : u_T} {N0 : Nat} {fs As stk : List Value} {r : Option Value} {w : va_W} (K : jCon G M' y d' 0 0 (.ref b :: As) ws (jEq r w)) (L : jL0 y M' nA) (hk : Cond.methodLink M.1 ix x ∈ jWS) (hx : x.name = y.name ∧ x.desc = y.desc ∧ (x.cls ≠ "java/lang/invoke/MethodHandle" ∧ x.cls ≠ "java/lang/invoke/VarHandle")) (hsm : Cond.sameMethod x.cls x.cls x.name x.desc ∈ jWS) (hs : Cond.selects C0 x y ∈ jWS) (hi : Cond.instanceMethod y ∈ jWS) (hde : Cond.declares x ∈ lw_tbl ∨ x = y) (q0 : Nat) (he : ws[q0]? = some (b, .inr (ci, fs))) (hc : vwCl[ci]? = some (C0, T0, N0))
    (hd : decode M.2.1 pc = .ok (.invokevirtual ix, 3)) (hn : As.length = nA) (hst : (st.map fun v => v.category).sum ≤ 8) (hdd : d' + 1 ≤ d) (hm : k ≤ mc) (hn2 : n ≤ ms) (hstk : stk = As.reverse ++ .ref b :: st) (hr : r.toList ++ st = st2) (kk : J G M d mc ms P (pc + 3) lv st2 w k n) : J G M d mc ms P pc lv stk ws k n :=
  j_callU K L hk hx hsm hs hi hde q0 he hc hd hn hst hdd hm hn2 hstk (fun _ _ h => by cases h.1) (fun v ws' h => by
    obtain ⟨h1, h2⟩ := h
    cases h1
    subst h2
    subst hr
    exact kk)
end JS
/-- a place of an array -/
abbrev jin (i : Int32) (N : Nat) : Prop := 0 ≤ i.toInt ∧ i.toInt < N
theorem jin.vp {i : Int32} {N : Nat} (h : jin i N) : vp_in i N := vp_in_iff.mpr h
/-- a boolean -/
abbrev jbo (v : Int32) : Prop := v = 0 ∨ v = 1
theorem jbo.nar {v : Int32} (h : jbo v) : narrow .boolean (.int v) = .int v := by
  rcases h with h | h <;> subst h <;> rfl
theorem jbo.fit {v : Int32} (h : jbo v) : fits .boolean (.int v) = true := by
  rcases h with h | h <;> subst h <;> rfl
theorem ochk {α : Type} {c : Prop} [Decidable c] {x : Option α} {r : α} (h : (if c then x else none) = some r) : c ∧ x = some r := by
  by_cases hc : c
  · rw [if_pos hc] at h; exact ⟨hc, h⟩
  · rw [if_neg hc] at h; cases h
theorem obnd {α β : Type} {x : Option α} {f : α → Option β} {r : β} (h : x.bind f = some r) : ∃ a, x = some a ∧ f a = some r := Option.bind_eq_some_iff.mp h
end
section
/-! ===== the reference: its state, its methods as functions ===== -/
abbrev jS : Type := Nat → Nat → Int32
def jF : Nat := 4000
def jlet {α β : Type} (a : α) (f : α → Option β) : Option β := f a
theorem olet {α β : Type} {a : α} {f : α → Option β} {r : β} (h : jlet a f = some r) : ∃ x, a = x ∧ f x = some r := ⟨a, rfl, h⟩
theorem j_topi {G : jG} {M : jM} {d mc ms : Nat} {P : jR → va_W → Prop} {pc : Nat} {lv : List (Nat × Value)} {st : List Value} {ws : va_W} {k n : Nat} {x y : Int32} (h : x = y) (kk : J G M d mc ms P pc lv (.int y :: st) ws k n) : J G M d mc ms P pc lv (.int x :: st) ws k n := by
  subst h; exact kk
def flR (ad : Nat → Nat) (s : jS) : List Value := [.int (s 0 0), .int (s 1 0), .int (s 2 0), .ref (ad 1), .ref (ad 2), .ref (ad 3), .ref (ad 4), .ref (ad 5), .ref (ad 6), .int (s 9 0), .int (s 10 0), .int (s 11 0), .int (s 12 0), .int (s 13 0), .int (s 14 0), .int (s 15 0), .int (s 16 0), .int (s 17 0), .int (s 18 0), .ref (ad 7), .ref (ad 8), .ref (ad 9), .ref (ad 10), .int (s 23 0), .int (s 24 0), .int (s 25 0), .int (s 26 0), .int (s 27 0), .ref (ad 11), .ref (ad 12), .ref (ad 13), .ref (ad 14), .ref (ad 15), .ref (ad 16), .ref (ad 17), .ref (ad 18), .ref (ad 19), .ref (ad 20), .ref (ad 21), .int (s 39 0), .int (s 40 0), .ref (ad 22), .ref (ad 23), .ref (ad 24), .ref (ad 25), .ref (ad 26), .ref (ad 27), .ref (ad 28)]
def mkR (ad : Nat → Nat) (G : jG) (s : jS) : va_W := [(ad 0, .inr (10, flR ad s)), (ad 1, .inl (G.1 0, 12, .inl (s 3))), (ad 2, .inl (G.1 0, 12, .inl (s 4))), (ad 3, .inl (G.1 0, 12, .inl (s 5))), (ad 4, .inl (G.1 0, 1019, .inl (s 6))), (ad 5, .inl (G.1 0, 31, .inl (s 7))), (ad 6, .inl (G.1 0, 2, .inl (s 8))), (ad 7, .inl (G.1 0, 49, .inl (s 19))), (ad 8, .inl (G.1 0, 49, .inl (s 20))), (ad 9, .inl (G.1 0, 49, .inl (s 21))), (ad 10, .inl (G.1 0, 7, .inl (s 22))), (ad 11, .inl (G.1 0, 7, .inl (s 28))), (ad 12, .inl (G.1 0, 7, .inl (s 29))), (ad 13, .inl (G.1 0, 49, .inl (s 30))), (ad 14, .inl (G.1 0, 49, .inl (s 31))), (ad 15, .inl (G.1 0, 49, .inl (s 32))), (ad 16, .inl (G.1 0, 49, .inl (s 33))), (ad 17, .inl (G.1 0, 49, .inl (s 34))), (ad 18, .inl (G.1 0, 49, .inl (s 35))), (ad 19, .inl (G.1 0, 7, .inl (s 36))), (ad 20, .inl (G.1 0, 7, .inl (s 37))), (ad 21, .inl (G.1 0, 7, .inl (s 38))), (ad 22, .inl (G.1 0, 1100, .inl (s 41))), (ad 23, .inl (G.1 0, 32, .inl (s 42))), (ad 24, .inl (G.1 0, 32, .inl (s 43))), (ad 25, .inl (G.1 0, 8, .inl (s 44))), (ad 26, .inl (G.1 0, 8, .inl (s 45))), (ad 27, .inl (G.1 0, 64, .inl (s 46))), (ad 28, .inl (G.1 0, 8, .inl (s 47)))]
theorem wpR_0 (ad : Nat → Nat) (G : jG) (s : jS) (x : Int32) : (mkR ad G s).set 0 (ad 0, .inr (10, (flR ad s).set 0 (.int x))) = mkR ad G (va_up s 0 (fun _ => x)) := rfl
theorem wpR_1 (ad : Nat → Nat) (G : jG) (s : jS) (x : Int32) : (mkR ad G s).set 0 (ad 0, .inr (10, (flR ad s).set 1 (.int x))) = mkR ad G (va_up s 1 (fun _ => x)) := rfl
theorem wpR_2 (ad : Nat → Nat) (G : jG) (s : jS) (x : Int32) : (mkR ad G s).set 0 (ad 0, .inr (10, (flR ad s).set 2 (.int x))) = mkR ad G (va_up s 2 (fun _ => x)) := rfl
theorem waR_3 (ad : Nat → Nat) (G : jG) (s : jS) (a : Nat → Int32) : (mkR ad G s).set 1 (ad 1, .inl (G.1 0, 12, .inl a)) = mkR ad G (va_up s 3 a) := rfl
theorem waR_4 (ad : Nat → Nat) (G : jG) (s : jS) (a : Nat → Int32) : (mkR ad G s).set 2 (ad 2, .inl (G.1 0, 12, .inl a)) = mkR ad G (va_up s 4 a) := rfl
theorem waR_5 (ad : Nat → Nat) (G : jG) (s : jS) (a : Nat → Int32) : (mkR ad G s).set 3 (ad 3, .inl (G.1 0, 12, .inl a)) = mkR ad G (va_up s 5 a) := rfl
theorem waR_6 (ad : Nat → Nat) (G : jG) (s : jS) (a : Nat → Int32) : (mkR ad G s).set 4 (ad 4, .inl (G.1 0, 1019, .inl a)) = mkR ad G (va_up s 6 a) := rfl
theorem waR_7 (ad : Nat → Nat) (G : jG) (s : jS) (a : Nat → Int32) : (mkR ad G s).set 5 (ad 5, .inl (G.1 0, 31, .inl a)) = mkR ad G (va_up s 7 a) := rfl
theorem waR_8 (ad : Nat → Nat) (G : jG) (s : jS) (a : Nat → Int32) : (mkR ad G s).set 6 (ad 6, .inl (G.1 0, 2, .inl a)) = mkR ad G (va_up s 8 a) := rfl
theorem wpR_9 (ad : Nat → Nat) (G : jG) (s : jS) (x : Int32) : (mkR ad G s).set 0 (ad 0, .inr (10, (flR ad s).set 9 (.int x))) = mkR ad G (va_up s 9 (fun _ => x)) := rfl
theorem wpR_10 (ad : Nat → Nat) (G : jG) (s : jS) (x : Int32) : (mkR ad G s).set 0 (ad 0, .inr (10, (flR ad s).set 10 (.int x))) = mkR ad G (va_up s 10 (fun _ => x)) := rfl
theorem wpR_11 (ad : Nat → Nat) (G : jG) (s : jS) (x : Int32) : (mkR ad G s).set 0 (ad 0, .inr (10, (flR ad s).set 11 (.int x))) = mkR ad G (va_up s 11 (fun _ => x)) := rfl
theorem wpR_12 (ad : Nat → Nat) (G : jG) (s : jS) (x : Int32) : (mkR ad G s).set 0 (ad 0, .inr (10, (flR ad s).set 12 (.int x))) = mkR ad G (va_up s 12 (fun _ => x)) := rfl
theorem wpR_13 (ad : Nat → Nat) (G : jG) (s : jS) (x : Int32) : (mkR ad G s).set 0 (ad 0, .inr (10, (flR ad s).set 13 (.int x))) = mkR ad G (va_up s 13 (fun _ => x)) := rfl
theorem wpR_14 (ad : Nat → Nat) (G : jG) (s : jS) (x : Int32) : (mkR ad G s).set 0 (ad 0, .inr (10, (flR ad s).set 14 (.int x))) = mkR ad G (va_up s 14 (fun _ => x)) := rfl
theorem wpR_15 (ad : Nat → Nat) (G : jG) (s : jS) (x : Int32) : (mkR ad G s).set 0 (ad 0, .inr (10, (flR ad s).set 15 (.int x))) = mkR ad G (va_up s 15 (fun _ => x)) := rfl
theorem wpR_16 (ad : Nat → Nat) (G : jG) (s : jS) (x : Int32) : (mkR ad G s).set 0 (ad 0, .inr (10, (flR ad s).set 16 (.int x))) = mkR ad G (va_up s 16 (fun _ => x)) := rfl
theorem wpR_17 (ad : Nat → Nat) (G : jG) (s : jS) (x : Int32) : (mkR ad G s).set 0 (ad 0, .inr (10, (flR ad s).set 17 (.int x))) = mkR ad G (va_up s 17 (fun _ => x)) := rfl
theorem wpR_18 (ad : Nat → Nat) (G : jG) (s : jS) (x : Int32) : (mkR ad G s).set 0 (ad 0, .inr (10, (flR ad s).set 18 (.int x))) = mkR ad G (va_up s 18 (fun _ => x)) := rfl
theorem waR_19 (ad : Nat → Nat) (G : jG) (s : jS) (a : Nat → Int32) : (mkR ad G s).set 7 (ad 7, .inl (G.1 0, 49, .inl a)) = mkR ad G (va_up s 19 a) := rfl
theorem waR_20 (ad : Nat → Nat) (G : jG) (s : jS) (a : Nat → Int32) : (mkR ad G s).set 8 (ad 8, .inl (G.1 0, 49, .inl a)) = mkR ad G (va_up s 20 a) := rfl
theorem waR_21 (ad : Nat → Nat) (G : jG) (s : jS) (a : Nat → Int32) : (mkR ad G s).set 9 (ad 9, .inl (G.1 0, 49, .inl a)) = mkR ad G (va_up s 21 a) := rfl
theorem waR_22 (ad : Nat → Nat) (G : jG) (s : jS) (a : Nat → Int32) : (mkR ad G s).set 10 (ad 10, .inl (G.1 0, 7, .inl a)) = mkR ad G (va_up s 22 a) := rfl
theorem wpR_23 (ad : Nat → Nat) (G : jG) (s : jS) (x : Int32) : (mkR ad G s).set 0 (ad 0, .inr (10, (flR ad s).set 23 (.int x))) = mkR ad G (va_up s 23 (fun _ => x)) := rfl
theorem wpR_24 (ad : Nat → Nat) (G : jG) (s : jS) (x : Int32) : (mkR ad G s).set 0 (ad 0, .inr (10, (flR ad s).set 24 (.int x))) = mkR ad G (va_up s 24 (fun _ => x)) := rfl
theorem wpR_25 (ad : Nat → Nat) (G : jG) (s : jS) (x : Int32) : (mkR ad G s).set 0 (ad 0, .inr (10, (flR ad s).set 25 (.int x))) = mkR ad G (va_up s 25 (fun _ => x)) := rfl
theorem wpR_26 (ad : Nat → Nat) (G : jG) (s : jS) (x : Int32) : (mkR ad G s).set 0 (ad 0, .inr (10, (flR ad s).set 26 (.int x))) = mkR ad G (va_up s 26 (fun _ => x)) := rfl
theorem wpR_27 (ad : Nat → Nat) (G : jG) (s : jS) (x : Int32) : (mkR ad G s).set 0 (ad 0, .inr (10, (flR ad s).set 27 (.int x))) = mkR ad G (va_up s 27 (fun _ => x)) := rfl
theorem waR_28 (ad : Nat → Nat) (G : jG) (s : jS) (a : Nat → Int32) : (mkR ad G s).set 11 (ad 11, .inl (G.1 0, 7, .inl a)) = mkR ad G (va_up s 28 a) := rfl
theorem waR_29 (ad : Nat → Nat) (G : jG) (s : jS) (a : Nat → Int32) : (mkR ad G s).set 12 (ad 12, .inl (G.1 0, 7, .inl a)) = mkR ad G (va_up s 29 a) := rfl
theorem waR_30 (ad : Nat → Nat) (G : jG) (s : jS) (a : Nat → Int32) : (mkR ad G s).set 13 (ad 13, .inl (G.1 0, 49, .inl a)) = mkR ad G (va_up s 30 a) := rfl
theorem waR_31 (ad : Nat → Nat) (G : jG) (s : jS) (a : Nat → Int32) : (mkR ad G s).set 14 (ad 14, .inl (G.1 0, 49, .inl a)) = mkR ad G (va_up s 31 a) := rfl
theorem waR_32 (ad : Nat → Nat) (G : jG) (s : jS) (a : Nat → Int32) : (mkR ad G s).set 15 (ad 15, .inl (G.1 0, 49, .inl a)) = mkR ad G (va_up s 32 a) := rfl
theorem waR_33 (ad : Nat → Nat) (G : jG) (s : jS) (a : Nat → Int32) : (mkR ad G s).set 16 (ad 16, .inl (G.1 0, 49, .inl a)) = mkR ad G (va_up s 33 a) := rfl
theorem waR_34 (ad : Nat → Nat) (G : jG) (s : jS) (a : Nat → Int32) : (mkR ad G s).set 17 (ad 17, .inl (G.1 0, 49, .inl a)) = mkR ad G (va_up s 34 a) := rfl
theorem waR_35 (ad : Nat → Nat) (G : jG) (s : jS) (a : Nat → Int32) : (mkR ad G s).set 18 (ad 18, .inl (G.1 0, 49, .inl a)) = mkR ad G (va_up s 35 a) := rfl
theorem waR_36 (ad : Nat → Nat) (G : jG) (s : jS) (a : Nat → Int32) : (mkR ad G s).set 19 (ad 19, .inl (G.1 0, 7, .inl a)) = mkR ad G (va_up s 36 a) := rfl
theorem waR_37 (ad : Nat → Nat) (G : jG) (s : jS) (a : Nat → Int32) : (mkR ad G s).set 20 (ad 20, .inl (G.1 0, 7, .inl a)) = mkR ad G (va_up s 37 a) := rfl
theorem waR_38 (ad : Nat → Nat) (G : jG) (s : jS) (a : Nat → Int32) : (mkR ad G s).set 21 (ad 21, .inl (G.1 0, 7, .inl a)) = mkR ad G (va_up s 38 a) := rfl
theorem wpR_39 (ad : Nat → Nat) (G : jG) (s : jS) (x : Int32) : (mkR ad G s).set 0 (ad 0, .inr (10, (flR ad s).set 39 (.int x))) = mkR ad G (va_up s 39 (fun _ => x)) := rfl
theorem wpR_40 (ad : Nat → Nat) (G : jG) (s : jS) (x : Int32) : (mkR ad G s).set 0 (ad 0, .inr (10, (flR ad s).set 40 (.int x))) = mkR ad G (va_up s 40 (fun _ => x)) := rfl
theorem waR_41 (ad : Nat → Nat) (G : jG) (s : jS) (a : Nat → Int32) : (mkR ad G s).set 22 (ad 22, .inl (G.1 0, 1100, .inl a)) = mkR ad G (va_up s 41 a) := rfl
theorem waR_42 (ad : Nat → Nat) (G : jG) (s : jS) (a : Nat → Int32) : (mkR ad G s).set 23 (ad 23, .inl (G.1 0, 32, .inl a)) = mkR ad G (va_up s 42 a) := rfl
theorem waR_43 (ad : Nat → Nat) (G : jG) (s : jS) (a : Nat → Int32) : (mkR ad G s).set 24 (ad 24, .inl (G.1 0, 32, .inl a)) = mkR ad G (va_up s 43 a) := rfl
theorem waR_44 (ad : Nat → Nat) (G : jG) (s : jS) (a : Nat → Int32) : (mkR ad G s).set 25 (ad 25, .inl (G.1 0, 8, .inl a)) = mkR ad G (va_up s 44 a) := rfl
theorem waR_45 (ad : Nat → Nat) (G : jG) (s : jS) (a : Nat → Int32) : (mkR ad G s).set 26 (ad 26, .inl (G.1 0, 8, .inl a)) = mkR ad G (va_up s 45 a) := rfl
theorem waR_46 (ad : Nat → Nat) (G : jG) (s : jS) (a : Nat → Int32) : (mkR ad G s).set 27 (ad 27, .inl (G.1 0, 64, .inl a)) = mkR ad G (va_up s 46 a) := rfl
theorem waR_47 (ad : Nat → Nat) (G : jG) (s : jS) (a : Nat → Int32) : (mkR ad G s).set 28 (ad 28, .inl (G.1 0, 8, .inl a)) = mkR ad G (va_up s 47 a) := rfl
end
section
set_option maxRecDepth 100000 in
theorem w1125 : Cond.fieldLink "SharingRoomModel" 170 "SharingRoomModel" "code" "I" ∈ jWS := jm 1125 rfl rfl
theorem fl_Mod_170_10 : jFl "SharingRoomModel" 170 10 0 := ⟨"SharingRoomModel", T_Mod, 48, "SharingRoomModel", rfl, by decide, in_Mod, w1125, Or.inl rfl⟩
theorem fp_Mod_170_10 : jFp "SharingRoomModel" "field" 170 10 0 (.int) := ⟨fl_Mod_170_10, "SharingRoomModel", T_Mod, 48, ty_Mod, rfl, tk_Mod, nm_Mod, rfl, Or.inl rfl⟩
set_option maxRecDepth 100000 in
theorem w1126 : Cond.fieldLink "SharingRoomModel" 181 "SharingRoomModel" "field" "I" ∈ jWS := jm 1126 rfl rfl
theorem fl_Mod_181_10 : jFl "SharingRoomModel" 181 10 1 := ⟨"SharingRoomModel", T_Mod, 48, "SharingRoomModel", rfl, by decide, in_Mod, w1126, Or.inl rfl⟩
theorem fp_Mod_181_10 : jFp "SharingRoomModel" "field" 181 10 1 (.int) := ⟨fl_Mod_181_10, "SharingRoomModel", T_Mod, 48, ty_Mod, rfl, tk_Mod, nm_Mod, rfl, Or.inl rfl⟩
set_option maxRecDepth 100000 in
theorem w1127 : Cond.fieldLink "SharingRoomModel" 184 "SharingRoomModel" "many" "I" ∈ jWS := jm 1127 rfl rfl
theorem fl_Mod_184_10 : jFl "SharingRoomModel" 184 10 2 := ⟨"SharingRoomModel", T_Mod, 48, "SharingRoomModel", rfl, by decide, in_Mod, w1127, Or.inl rfl⟩
theorem fp_Mod_184_10 : jFp "SharingRoomModel" "field" 184 10 2 (.int) := ⟨fl_Mod_184_10, "SharingRoomModel", T_Mod, 48, ty_Mod, rfl, tk_Mod, nm_Mod, rfl, Or.inl rfl⟩
set_option maxRecDepth 100000 in
theorem w1287 : Cond.code ⟨"SharingRoomModel", "order", "(I)I"⟩ prog_14_method_5_code 1 (some FieldType.int) ∈ jWS := jm 1287 rfl rfl
set_option maxRecDepth 100000 in
theorem w75 : Cond.initialized "SharingRoomModel" ∈ jWS := jm 75 rfl rfl
theorem L0_Mod_order : jL0 y_Mod_order m_Mod_order 1 := ⟨w1287, w75, ⟨by decide +kernel, by decide +kernel⟩, by decide +kernel, by decide +kernel⟩
set_option maxRecDepth 100000 in
theorem w1285 : Cond.methodLink "SharingRoomModel" 174 ⟨"SharingRoomModel", "order", "(I)I"⟩ ∈ jWS := jm 1285 rfl rfl
set_option maxRecDepth 100000 in
theorem w1286 : Cond.static ⟨"SharingRoomModel", "order", "(I)I"⟩ ∈ jWS := jm 1286 rfl rfl
set_option maxRecDepth 100000 in
theorem w1284 : Cond.code ⟨"SharingRoomModel", "isElement", "(II)Z"⟩ prog_14_method_10_code 2 (some FieldType.boolean) ∈ jWS := jm 1284 rfl rfl
theorem L0_Mod_isElement : jL0 y_Mod_isElement m_Mod_isElement 2 := ⟨w1284, w75, ⟨by decide +kernel, by decide +kernel⟩, by decide +kernel, by decide +kernel⟩
set_option maxRecDepth 100000 in
theorem w1282 : Cond.methodLink "SharingRoomModel" 187 ⟨"SharingRoomModel", "isElement", "(II)Z"⟩ ∈ jWS := jm 1282 rfl rfl
set_option maxRecDepth 100000 in
theorem w1283 : Cond.static ⟨"SharingRoomModel", "isElement", "(II)Z"⟩ ∈ jWS := jm 1283 rfl rfl
set_option maxRecDepth 100000 in
theorem w1128 : Cond.fieldLink "SharingRoomModel" 7 "SharingRoomModel" "px" "[I" ∈ jWS := jm 1128 rfl rfl
theorem fl_Mod_7_10 : jFl "SharingRoomModel" 7 10 3 := ⟨"SharingRoomModel", T_Mod, 48, "SharingRoomModel", rfl, by decide, in_Mod, w1128, Or.inl rfl⟩
set_option maxRecDepth 100000 in
theorem w1129 : Cond.fieldLink "SharingRoomModel" 13 "SharingRoomModel" "py" "[I" ∈ jWS := jm 1129 rfl rfl
theorem fl_Mod_13_10 : jFl "SharingRoomModel" 13 10 4 := ⟨"SharingRoomModel", T_Mod, 48, "SharingRoomModel", rfl, by decide, in_Mod, w1129, Or.inl rfl⟩
set_option maxRecDepth 100000 in
theorem w1304 : Cond.code ⟨"SharingRoomModel", "times", "(III)I"⟩ prog_14_method_8_code 5 (some FieldType.int) ∈ jWS := jm 1304 rfl rfl
theorem L0_Mod_times : jL0 y_Mod_times m_Mod_times 3 := ⟨w1304, w75, ⟨by decide +kernel, by decide +kernel⟩, by decide +kernel, by decide +kernel⟩
set_option maxRecDepth 100000 in
theorem w1302 : Cond.methodLink "SharingRoomModel" 177 ⟨"SharingRoomModel", "times", "(III)I"⟩ ∈ jWS := jm 1302 rfl rfl
set_option maxRecDepth 100000 in
theorem w1303 : Cond.static ⟨"SharingRoomModel", "times", "(III)I"⟩ ∈ jWS := jm 1303 rfl rfl
set_option maxRecDepth 100000 in
theorem w1130 : Cond.fieldLink "SharingRoomModel" 16 "SharingRoomModel" "difference" "[I" ∈ jWS := jm 1130 rfl rfl
theorem fl_Mod_16_10 : jFl "SharingRoomModel" 16 10 5 := ⟨"SharingRoomModel", T_Mod, 48, "SharingRoomModel", rfl, by decide, in_Mod, w1130, Or.inl rfl⟩
set_option maxRecDepth 100000 in
theorem w1298 : Cond.code ⟨"SharingRoomModel", "less", "(III)I"⟩ prog_14_method_6_code 3 (some FieldType.int) ∈ jWS := jm 1298 rfl rfl
theorem L0_Mod_less : jL0 y_Mod_less m_Mod_less 3 := ⟨w1298, w75, ⟨by decide +kernel, by decide +kernel⟩, by decide +kernel, by decide +kernel⟩
set_option maxRecDepth 100000 in
theorem w1296 : Cond.methodLink "SharingRoomModel" 191 ⟨"SharingRoomModel", "less", "(III)I"⟩ ∈ jWS := jm 1296 rfl rfl
set_option maxRecDepth 100000 in
theorem w1297 : Cond.static ⟨"SharingRoomModel", "less", "(III)I"⟩ ∈ jWS := jm 1297 rfl rfl
set_option maxRecDepth 100000 in
theorem w1301 : Cond.code ⟨"SharingRoomModel", "over", "(III)I"⟩ prog_14_method_9_code 4 (some FieldType.int) ∈ jWS := jm 1301 rfl rfl
theorem L0_Mod_over : jL0 y_Mod_over m_Mod_over 3 := ⟨w1301, w75, ⟨by decide +kernel, by decide +kernel⟩, by decide +kernel, by decide +kernel⟩
set_option maxRecDepth 100000 in
theorem w1299 : Cond.methodLink "SharingRoomModel" 194 ⟨"SharingRoomModel", "over", "(III)I"⟩ ∈ jWS := jm 1299 rfl rfl
set_option maxRecDepth 100000 in
theorem w1300 : Cond.static ⟨"SharingRoomModel", "over", "(III)I"⟩ ∈ jWS := jm 1300 rfl rfl
set_option maxRecDepth 100000 in
theorem w1295 : Cond.code ⟨"SharingRoomModel", "divide", "()V"⟩ prog_14_method_13_code 3 none ∈ jWS := jm 1295 rfl rfl
theorem L0_Mod_divide : jL0 y_Mod_divide m_Mod_divide 0 := ⟨w1295, w75, ⟨by decide +kernel, by decide +kernel⟩, by decide +kernel, by decide +kernel⟩
set_option maxRecDepth 100000 in
theorem w1292 : Cond.methodLink "SharingRoomModel" 197 ⟨"SharingRoomModel", "divide", "()V"⟩ ∈ jWS := jm 1292 rfl rfl
set_option maxRecDepth 100000 in
theorem w1294 : Cond.instanceMethod ⟨"SharingRoomModel", "divide", "()V"⟩ ∈ jWS := jm 1294 rfl rfl
set_option maxRecDepth 100000 in
theorem w34 : Cond.selects "SharingRoomModel" ⟨"SharingRoomModel", "divide", "()V"⟩ ⟨"SharingRoomModel", "divide", "()V"⟩ ∈ jWS := jm 34 rfl rfl
set_option maxRecDepth 100000 in
theorem w1307 : Cond.code ⟨"SharingRoomModel", "plus", "(III)I"⟩ prog_14_method_7_code 3 (some FieldType.int) ∈ jWS := jm 1307 rfl rfl
theorem L0_Mod_plus : jL0 y_Mod_plus m_Mod_plus 3 := ⟨w1307, w75, ⟨by decide +kernel, by decide +kernel⟩, by decide +kernel, by decide +kernel⟩
set_option maxRecDepth 100000 in
theorem w1305 : Cond.methodLink "SharingRoomModel" 200 ⟨"SharingRoomModel", "plus", "(III)I"⟩ ∈ jWS := jm 1305 rfl rfl
set_option maxRecDepth 100000 in
theorem w1306 : Cond.static ⟨"SharingRoomModel", "plus", "(III)I"⟩ ∈ jWS := jm 1306 rfl rfl
set_option maxRecDepth 100000 in
theorem w1144 : Cond.fieldLink "SharingRoomModel" 28 "SharingRoomModel" "a" "[I" ∈ jWS := jm 1144 rfl rfl
theorem fl_Mod_28_10 : jFl "SharingRoomModel" 28 10 19 := ⟨"SharingRoomModel", T_Mod, 48, "SharingRoomModel", rfl, by decide, in_Mod, w1144, Or.inl rfl⟩
set_option maxRecDepth 100000 in
theorem w1145 : Cond.fieldLink "SharingRoomModel" 31 "SharingRoomModel" "b" "[I" ∈ jWS := jm 1145 rfl rfl
theorem fl_Mod_31_10 : jFl "SharingRoomModel" 31 10 20 := ⟨"SharingRoomModel", T_Mod, 48, "SharingRoomModel", rfl, by decide, in_Mod, w1145, Or.inl rfl⟩
set_option maxRecDepth 100000 in
theorem w1146 : Cond.fieldLink "SharingRoomModel" 34 "SharingRoomModel" "faults" "[I" ∈ jWS := jm 1146 rfl rfl
theorem fl_Mod_34_10 : jFl "SharingRoomModel" 34 10 21 := ⟨"SharingRoomModel", T_Mod, 48, "SharingRoomModel", rfl, by decide, in_Mod, w1146, Or.inl rfl⟩
set_option maxRecDepth 100000 in
theorem w1147 : Cond.fieldLink "SharingRoomModel" 37 "SharingRoomModel" "crashes" "[I" ∈ jWS := jm 1147 rfl rfl
theorem fl_Mod_37_10 : jFl "SharingRoomModel" 37 10 22 := ⟨"SharingRoomModel", T_Mod, 48, "SharingRoomModel", rfl, by decide, in_Mod, w1147, Or.inl rfl⟩
set_option maxRecDepth 100000 in
theorem w1134 : Cond.fieldLink "SharingRoomModel" 210 "SharingRoomModel" "group" "I" ∈ jWS := jm 1134 rfl rfl
theorem fl_Mod_210_10 : jFl "SharingRoomModel" 210 10 9 := ⟨"SharingRoomModel", T_Mod, 48, "SharingRoomModel", rfl, by decide, in_Mod, w1134, Or.inl rfl⟩
theorem fp_Mod_210_10 : jFp "SharingRoomModel" "begin" 210 10 9 (.int) := ⟨fl_Mod_210_10, "SharingRoomModel", T_Mod, 48, ty_Mod, rfl, tk_Mod, nm_Mod, rfl, Or.inl rfl⟩
set_option maxRecDepth 100000 in
theorem w1135 : Cond.fieldLink "SharingRoomModel" 213 "SharingRoomModel" "q" "I" ∈ jWS := jm 1135 rfl rfl
theorem fl_Mod_213_10 : jFl "SharingRoomModel" 213 10 10 := ⟨"SharingRoomModel", T_Mod, 48, "SharingRoomModel", rfl, by decide, in_Mod, w1135, Or.inl rfl⟩
theorem fp_Mod_213_10 : jFp "SharingRoomModel" "begin" 213 10 10 (.int) := ⟨fl_Mod_213_10, "SharingRoomModel", T_Mod, 48, ty_Mod, rfl, tk_Mod, nm_Mod, rfl, Or.inl rfl⟩
set_option maxRecDepth 100000 in
theorem w1136 : Cond.fieldLink "SharingRoomModel" 207 "SharingRoomModel" "n" "I" ∈ jWS := jm 1136 rfl rfl
theorem fl_Mod_207_10 : jFl "SharingRoomModel" 207 10 11 := ⟨"SharingRoomModel", T_Mod, 48, "SharingRoomModel", rfl, by decide, in_Mod, w1136, Or.inl rfl⟩
theorem fp_Mod_207_10 : jFp "SharingRoomModel" "begin" 207 10 11 (.int) := ⟨fl_Mod_207_10, "SharingRoomModel", T_Mod, 48, ty_Mod, rfl, tk_Mod, nm_Mod, rfl, Or.inl rfl⟩
set_option maxRecDepth 100000 in
theorem w1137 : Cond.fieldLink "SharingRoomModel" 216 "SharingRoomModel" "t" "I" ∈ jWS := jm 1137 rfl rfl
theorem fl_Mod_216_10 : jFl "SharingRoomModel" 216 10 12 := ⟨"SharingRoomModel", T_Mod, 48, "SharingRoomModel", rfl, by decide, in_Mod, w1137, Or.inl rfl⟩
theorem fp_Mod_216_10 : jFp "SharingRoomModel" "begin" 216 10 12 (.int) := ⟨fl_Mod_216_10, "SharingRoomModel", T_Mod, 48, ty_Mod, rfl, tk_Mod, nm_Mod, rfl, Or.inl rfl⟩
set_option maxRecDepth 100000 in
theorem w1138 : Cond.fieldLink "SharingRoomModel" 219 "SharingRoomModel" "first" "I" ∈ jWS := jm 1138 rfl rfl
theorem fl_Mod_219_10 : jFl "SharingRoomModel" 219 10 13 := ⟨"SharingRoomModel", T_Mod, 48, "SharingRoomModel", rfl, by decide, in_Mod, w1138, Or.inl rfl⟩
theorem fp_Mod_219_10 : jFp "SharingRoomModel" "begin" 219 10 13 (.int) := ⟨fl_Mod_219_10, "SharingRoomModel", T_Mod, 48, ty_Mod, rfl, tk_Mod, nm_Mod, rfl, Or.inl rfl⟩
set_option maxRecDepth 100000 in
theorem w1139 : Cond.fieldLink "SharingRoomModel" 222 "SharingRoomModel" "shown" "I" ∈ jWS := jm 1139 rfl rfl
theorem fl_Mod_222_10 : jFl "SharingRoomModel" 222 10 14 := ⟨"SharingRoomModel", T_Mod, 48, "SharingRoomModel", rfl, by decide, in_Mod, w1139, Or.inl rfl⟩
theorem fp_Mod_222_10 : jFp "SharingRoomModel" "begin" 222 10 14 (.int) := ⟨fl_Mod_222_10, "SharingRoomModel", T_Mod, 48, ty_Mod, rfl, tk_Mod, nm_Mod, rfl, Or.inl rfl⟩
set_option maxRecDepth 100000 in
theorem w1140 : Cond.fieldLink "SharingRoomModel" 203 "SharingRoomModel" "there" "Z" ∈ jWS := jm 1140 rfl rfl
theorem fl_Mod_203_10 : jFl "SharingRoomModel" 203 10 15 := ⟨"SharingRoomModel", T_Mod, 48, "SharingRoomModel", rfl, by decide, in_Mod, w1140, Or.inl rfl⟩
theorem fp_Mod_203_10 : jFp "SharingRoomModel" "begin" 203 10 15 (.boolean) := ⟨fl_Mod_203_10, "SharingRoomModel", T_Mod, 48, ty_Mod, rfl, tk_Mod, nm_Mod, rfl, Or.inl rfl⟩
set_option maxRecDepth 100000 in
theorem w1141 : Cond.fieldLink "SharingRoomModel" 225 "SharingRoomModel" "done" "Z" ∈ jWS := jm 1141 rfl rfl
theorem fl_Mod_225_10 : jFl "SharingRoomModel" 225 10 16 := ⟨"SharingRoomModel", T_Mod, 48, "SharingRoomModel", rfl, by decide, in_Mod, w1141, Or.inl rfl⟩
theorem fp_Mod_225_10 : jFp "SharingRoomModel" "begin" 225 10 16 (.boolean) := ⟨fl_Mod_225_10, "SharingRoomModel", T_Mod, 48, ty_Mod, rfl, tk_Mod, nm_Mod, rfl, Or.inl rfl⟩
set_option maxRecDepth 100000 in
theorem w1142 : Cond.fieldLink "SharingRoomModel" 228 "SharingRoomModel" "failed" "Z" ∈ jWS := jm 1142 rfl rfl
theorem fl_Mod_228_10 : jFl "SharingRoomModel" 228 10 17 := ⟨"SharingRoomModel", T_Mod, 48, "SharingRoomModel", rfl, by decide, in_Mod, w1142, Or.inl rfl⟩
theorem fp_Mod_228_10 : jFp "SharingRoomModel" "begin" 228 10 17 (.boolean) := ⟨fl_Mod_228_10, "SharingRoomModel", T_Mod, 48, ty_Mod, rfl, tk_Mod, nm_Mod, rfl, Or.inl rfl⟩
set_option maxRecDepth 100000 in
theorem w1143 : Cond.fieldLink "SharingRoomModel" 231 "SharingRoomModel" "round" "I" ∈ jWS := jm 1143 rfl rfl
theorem fl_Mod_231_10 : jFl "SharingRoomModel" 231 10 18 := ⟨"SharingRoomModel", T_Mod, 48, "SharingRoomModel", rfl, by decide, in_Mod, w1143, Or.inl rfl⟩
theorem fp_Mod_231_10 : jFp "SharingRoomModel" "begin" 231 10 18 (.int) := ⟨fl_Mod_231_10, "SharingRoomModel", T_Mod, 48, ty_Mod, rfl, tk_Mod, nm_Mod, rfl, Or.inl rfl⟩
set_option maxRecDepth 100000 in
theorem w1165 : Cond.fieldLink "SharingRoomModel" 234 "SharingRoomModel" "size" "I" ∈ jWS := jm 1165 rfl rfl
theorem fl_Mod_234_10 : jFl "SharingRoomModel" 234 10 40 := ⟨"SharingRoomModel", T_Mod, 48, "SharingRoomModel", rfl, by decide, in_Mod, w1165, Or.inl rfl⟩
theorem fp_Mod_234_10 : jFp "SharingRoomModel" "begin" 234 10 40 (.int) := ⟨fl_Mod_234_10, "SharingRoomModel", T_Mod, 48, ty_Mod, rfl, tk_Mod, nm_Mod, rfl, Or.inl rfl⟩
set_option maxRecDepth 100000 in
theorem w1148 : Cond.fieldLink "SharingRoomModel" 237 "SharingRoomModel" "dealt" "I" ∈ jWS := jm 1148 rfl rfl
theorem fl_Mod_237_10 : jFl "SharingRoomModel" 237 10 23 := ⟨"SharingRoomModel", T_Mod, 48, "SharingRoomModel", rfl, by decide, in_Mod, w1148, Or.inl rfl⟩
theorem fp_Mod_237_10 : jFp "SharingRoomModel" "begin" 237 10 23 (.int) := ⟨fl_Mod_237_10, "SharingRoomModel", T_Mod, 48, ty_Mod, rfl, tk_Mod, nm_Mod, rfl, Or.inl rfl⟩
set_option maxRecDepth 100000 in
theorem w1149 : Cond.fieldLink "SharingRoomModel" 240 "SharingRoomModel" "extracted" "I" ∈ jWS := jm 1149 rfl rfl
theorem fl_Mod_240_10 : jFl "SharingRoomModel" 240 10 24 := ⟨"SharingRoomModel", T_Mod, 48, "SharingRoomModel", rfl, by decide, in_Mod, w1149, Or.inl rfl⟩
theorem fp_Mod_240_10 : jFp "SharingRoomModel" "begin" 240 10 24 (.int) := ⟨fl_Mod_240_10, "SharingRoomModel", T_Mod, 48, ty_Mod, rfl, tk_Mod, nm_Mod, rfl, Or.inl rfl⟩
set_option maxRecDepth 100000 in
theorem w1150 : Cond.fieldLink "SharingRoomModel" 243 "SharingRoomModel" "qualified" "I" ∈ jWS := jm 1150 rfl rfl
theorem fl_Mod_243_10 : jFl "SharingRoomModel" 243 10 25 := ⟨"SharingRoomModel", T_Mod, 48, "SharingRoomModel", rfl, by decide, in_Mod, w1150, Or.inl rfl⟩
theorem fp_Mod_243_10 : jFp "SharingRoomModel" "begin" 243 10 25 (.int) := ⟨fl_Mod_243_10, "SharingRoomModel", T_Mod, 48, ty_Mod, rfl, tk_Mod, nm_Mod, rfl, Or.inl rfl⟩
set_option maxRecDepth 100000 in
theorem w1151 : Cond.fieldLink "SharingRoomModel" 246 "SharingRoomModel" "accused" "I" ∈ jWS := jm 1151 rfl rfl
theorem fl_Mod_246_10 : jFl "SharingRoomModel" 246 10 26 := ⟨"SharingRoomModel", T_Mod, 48, "SharingRoomModel", rfl, by decide, in_Mod, w1151, Or.inl rfl⟩
theorem fp_Mod_246_10 : jFp "SharingRoomModel" "begin" 246 10 26 (.int) := ⟨fl_Mod_246_10, "SharingRoomModel", T_Mod, 48, ty_Mod, rfl, tk_Mod, nm_Mod, rfl, Or.inl rfl⟩
set_option maxRecDepth 100000 in
theorem w1152 : Cond.fieldLink "SharingRoomModel" 249 "SharingRoomModel" "opened" "I" ∈ jWS := jm 1152 rfl rfl
theorem fl_Mod_249_10 : jFl "SharingRoomModel" 249 10 27 := ⟨"SharingRoomModel", T_Mod, 48, "SharingRoomModel", rfl, by decide, in_Mod, w1152, Or.inl rfl⟩
theorem fp_Mod_249_10 : jFp "SharingRoomModel" "begin" 249 10 27 (.int) := ⟨fl_Mod_249_10, "SharingRoomModel", T_Mod, 48, ty_Mod, rfl, tk_Mod, nm_Mod, rfl, Or.inl rfl⟩
set_option maxRecDepth 100000 in
theorem w1153 : Cond.fieldLink "SharingRoomModel" 40 "SharingRoomModel" "complaints" "[I" ∈ jWS := jm 1153 rfl rfl
theorem fl_Mod_40_10 : jFl "SharingRoomModel" 40 10 28 := ⟨"SharingRoomModel", T_Mod, 48, "SharingRoomModel", rfl, by decide, in_Mod, w1153, Or.inl rfl⟩
set_option maxRecDepth 100000 in
theorem w1154 : Cond.fieldLink "SharingRoomModel" 43 "SharingRoomModel" "answers" "[I" ∈ jWS := jm 1154 rfl rfl
theorem fl_Mod_43_10 : jFl "SharingRoomModel" 43 10 29 := ⟨"SharingRoomModel", T_Mod, 48, "SharingRoomModel", rfl, by decide, in_Mod, w1154, Or.inl rfl⟩
set_option maxRecDepth 100000 in
theorem w1319 : Cond.code ⟨"SharingRoomModel", "forget", "()V"⟩ prog_14_method_18_code 2 none ∈ jWS := jm 1319 rfl rfl
theorem L0_Mod_forget : jL0 y_Mod_forget m_Mod_forget 0 := ⟨w1319, w75, ⟨by decide +kernel, by decide +kernel⟩, by decide +kernel, by decide +kernel⟩
set_option maxRecDepth 100000 in
theorem w1316 : Cond.methodLink "SharingRoomModel" 252 ⟨"SharingRoomModel", "forget", "()V"⟩ ∈ jWS := jm 1316 rfl rfl
set_option maxRecDepth 100000 in
theorem w1318 : Cond.instanceMethod ⟨"SharingRoomModel", "forget", "()V"⟩ ∈ jWS := jm 1318 rfl rfl
set_option maxRecDepth 100000 in
theorem w35 : Cond.selects "SharingRoomModel" ⟨"SharingRoomModel", "forget", "()V"⟩ ⟨"SharingRoomModel", "forget", "()V"⟩ ∈ jWS := jm 35 rfl rfl
set_option maxRecDepth 100000 in
theorem w1327 : Cond.code ⟨"SharingRoomModel", "isParty", "(I)Z"⟩ prog_14_method_16_code 2 (some FieldType.boolean) ∈ jWS := jm 1327 rfl rfl
theorem L0_Mod_isParty : jL0 y_Mod_isParty m_Mod_isParty 1 := ⟨w1327, w75, ⟨by decide +kernel, by decide +kernel⟩, by decide +kernel, by decide +kernel⟩
set_option maxRecDepth 100000 in
theorem w1324 : Cond.methodLink "SharingRoomModel" 255 ⟨"SharingRoomModel", "isParty", "(I)Z"⟩ ∈ jWS := jm 1324 rfl rfl
set_option maxRecDepth 100000 in
theorem w1326 : Cond.instanceMethod ⟨"SharingRoomModel", "isParty", "(I)Z"⟩ ∈ jWS := jm 1326 rfl rfl
set_option maxRecDepth 100000 in
theorem w36 : Cond.selects "SharingRoomModel" ⟨"SharingRoomModel", "isParty", "(I)Z"⟩ ⟨"SharingRoomModel", "isParty", "(I)Z"⟩ ∈ jWS := jm 36 rfl rfl
set_option maxRecDepth 100000 in
theorem w1166 : Cond.fieldLink "SharingRoomModel" 73 "SharingRoomModel" "bytes" "[I" ∈ jWS := jm 1166 rfl rfl
theorem fl_Mod_73_10 : jFl "SharingRoomModel" 73 10 41 := ⟨"SharingRoomModel", T_Mod, 48, "SharingRoomModel", rfl, by decide, in_Mod, w1166, Or.inl rfl⟩
set_option maxRecDepth 100000 in
theorem w1132 : Cond.fieldLink "SharingRoomModel" 22 "SharingRoomModel" "curve" "[I" ∈ jWS := jm 1132 rfl rfl
theorem fl_Mod_22_10 : jFl "SharingRoomModel" 22 10 7 := ⟨"SharingRoomModel", T_Mod, 48, "SharingRoomModel", rfl, by decide, in_Mod, w1132, Or.inl rfl⟩
set_option maxRecDepth 100000 in
theorem w1131 : Cond.fieldLink "SharingRoomModel" 19 "SharingRoomModel" "squares" "[I" ∈ jWS := jm 1131 rfl rfl
theorem fl_Mod_19_10 : jFl "SharingRoomModel" 19 10 6 := ⟨"SharingRoomModel", T_Mod, 48, "SharingRoomModel", rfl, by decide, in_Mod, w1131, Or.inl rfl⟩
set_option maxRecDepth 100000 in
theorem w1355 : Cond.code ⟨"SharingRoomModel", "show", "(I)V"⟩ prog_14_method_32_code 2 none ∈ jWS := jm 1355 rfl rfl
theorem L0_Mod_show : jL0 y_Mod_show m_Mod_show 1 := ⟨w1355, w75, ⟨by decide +kernel, by decide +kernel⟩, by decide +kernel, by decide +kernel⟩
set_option maxRecDepth 100000 in
theorem w1352 : Cond.methodLink "SharingRoomModel" 266 ⟨"SharingRoomModel", "show", "(I)V"⟩ ∈ jWS := jm 1352 rfl rfl
set_option maxRecDepth 100000 in
theorem w1354 : Cond.instanceMethod ⟨"SharingRoomModel", "show", "(I)V"⟩ ∈ jWS := jm 1354 rfl rfl
set_option maxRecDepth 100000 in
theorem w40 : Cond.selects "SharingRoomModel" ⟨"SharingRoomModel", "show", "(I)V"⟩ ⟨"SharingRoomModel", "show", "(I)V"⟩ ∈ jWS := jm 40 rfl rfl
set_option maxRecDepth 100000 in
theorem w1375 : Cond.code ⟨"SharingRoomModel", "power", "(II)I"⟩ prog_14_method_24_code 5 (some FieldType.int) ∈ jWS := jm 1375 rfl rfl
theorem L0_Mod_power : jL0 y_Mod_power m_Mod_power 2 := ⟨w1375, w75, ⟨by decide +kernel, by decide +kernel⟩, by decide +kernel, by decide +kernel⟩
set_option maxRecDepth 100000 in
theorem w1372 : Cond.methodLink "SharingRoomModel" 259 ⟨"SharingRoomModel", "power", "(II)I"⟩ ∈ jWS := jm 1372 rfl rfl
set_option maxRecDepth 100000 in
theorem w1374 : Cond.instanceMethod ⟨"SharingRoomModel", "power", "(II)I"⟩ ∈ jWS := jm 1374 rfl rfl
set_option maxRecDepth 100000 in
theorem w45 : Cond.selects "SharingRoomModel" ⟨"SharingRoomModel", "power", "(II)I"⟩ ⟨"SharingRoomModel", "power", "(II)I"⟩ ∈ jWS := jm 45 rfl rfl
set_option maxRecDepth 100000 in
theorem w1347 : Cond.code ⟨"SharingRoomModel", "works", "(II)Z"⟩ prog_14_method_22_code 3 (some FieldType.boolean) ∈ jWS := jm 1347 rfl rfl
theorem L0_Mod_works : jL0 y_Mod_works m_Mod_works 2 := ⟨w1347, w75, ⟨by decide +kernel, by decide +kernel⟩, by decide +kernel, by decide +kernel⟩
set_option maxRecDepth 100000 in
theorem w1344 : Cond.methodLink "SharingRoomModel" 294 ⟨"SharingRoomModel", "works", "(II)Z"⟩ ∈ jWS := jm 1344 rfl rfl
set_option maxRecDepth 100000 in
theorem w1346 : Cond.instanceMethod ⟨"SharingRoomModel", "works", "(II)Z"⟩ ∈ jWS := jm 1346 rfl rfl
set_option maxRecDepth 100000 in
theorem w38 : Cond.selects "SharingRoomModel" ⟨"SharingRoomModel", "works", "(II)Z"⟩ ⟨"SharingRoomModel", "works", "(II)Z"⟩ ∈ jWS := jm 38 rfl rfl
set_option maxRecDepth 100000 in
theorem w1351 : Cond.code ⟨"SharingRoomModel", "is", "(II)Z"⟩ prog_14_method_23_code 3 (some FieldType.boolean) ∈ jWS := jm 1351 rfl rfl
theorem L0_Mod_is : jL0 y_Mod_is m_Mod_is 2 := ⟨w1351, w75, ⟨by decide +kernel, by decide +kernel⟩, by decide +kernel, by decide +kernel⟩
set_option maxRecDepth 100000 in
theorem w1348 : Cond.methodLink "SharingRoomModel" 297 ⟨"SharingRoomModel", "is", "(II)Z"⟩ ∈ jWS := jm 1348 rfl rfl
set_option maxRecDepth 100000 in
theorem w1350 : Cond.instanceMethod ⟨"SharingRoomModel", "is", "(II)Z"⟩ ∈ jWS := jm 1350 rfl rfl
set_option maxRecDepth 100000 in
theorem w39 : Cond.selects "SharingRoomModel" ⟨"SharingRoomModel", "is", "(II)Z"⟩ ⟨"SharingRoomModel", "is", "(II)Z"⟩ ∈ jWS := jm 39 rfl rfl
set_option maxRecDepth 100000 in
theorem w1159 : Cond.fieldLink "SharingRoomModel" 58 "SharingRoomModel" "c" "[I" ∈ jWS := jm 1159 rfl rfl
theorem fl_Mod_58_10 : jFl "SharingRoomModel" 58 10 34 := ⟨"SharingRoomModel", T_Mod, 48, "SharingRoomModel", rfl, by decide, in_Mod, w1159, Or.inl rfl⟩
set_option maxRecDepth 100000 in
theorem w1133 : Cond.fieldLink "SharingRoomModel" 25 "SharingRoomModel" "heights" "[I" ∈ jWS := jm 1133 rfl rfl
theorem fl_Mod_25_10 : jFl "SharingRoomModel" 25 10 8 := ⟨"SharingRoomModel", T_Mod, 48, "SharingRoomModel", rfl, by decide, in_Mod, w1133, Or.inl rfl⟩
set_option maxRecDepth 100000 in
theorem w1359 : Cond.code ⟨"SharingRoomModel", "element", "(I)I"⟩ prog_14_method_28_code 2 (some FieldType.int) ∈ jWS := jm 1359 rfl rfl
theorem L0_Mod_element : jL0 y_Mod_element m_Mod_element 1 := ⟨w1359, w75, ⟨by decide +kernel, by decide +kernel⟩, by decide +kernel, by decide +kernel⟩
set_option maxRecDepth 100000 in
theorem w1356 : Cond.methodLink "SharingRoomModel" 300 ⟨"SharingRoomModel", "element", "(I)I"⟩ ∈ jWS := jm 1356 rfl rfl
set_option maxRecDepth 100000 in
theorem w1358 : Cond.instanceMethod ⟨"SharingRoomModel", "element", "(I)I"⟩ ∈ jWS := jm 1358 rfl rfl
set_option maxRecDepth 100000 in
theorem w41 : Cond.selects "SharingRoomModel" ⟨"SharingRoomModel", "element", "(I)I"⟩ ⟨"SharingRoomModel", "element", "(I)I"⟩ ∈ jWS := jm 41 rfl rfl
set_option maxRecDepth 100000 in
theorem w1363 : Cond.code ⟨"SharingRoomModel", "showTwo", "(I)V"⟩ prog_14_method_33_code 2 none ∈ jWS := jm 1363 rfl rfl
theorem L0_Mod_showTwo : jL0 y_Mod_showTwo m_Mod_showTwo 1 := ⟨w1363, w75, ⟨by decide +kernel, by decide +kernel⟩, by decide +kernel, by decide +kernel⟩
set_option maxRecDepth 100000 in
theorem w1360 : Cond.methodLink "SharingRoomModel" 270 ⟨"SharingRoomModel", "showTwo", "(I)V"⟩ ∈ jWS := jm 1360 rfl rfl
set_option maxRecDepth 100000 in
theorem w1362 : Cond.instanceMethod ⟨"SharingRoomModel", "showTwo", "(I)V"⟩ ∈ jWS := jm 1362 rfl rfl
set_option maxRecDepth 100000 in
theorem w42 : Cond.selects "SharingRoomModel" ⟨"SharingRoomModel", "showTwo", "(I)V"⟩ ⟨"SharingRoomModel", "showTwo", "(I)V"⟩ ∈ jWS := jm 42 rfl rfl
set_option maxRecDepth 100000 in
theorem w1155 : Cond.fieldLink "SharingRoomModel" 46 "SharingRoomModel" "u" "[I" ∈ jWS := jm 1155 rfl rfl
theorem fl_Mod_46_10 : jFl "SharingRoomModel" 46 10 30 := ⟨"SharingRoomModel", T_Mod, 48, "SharingRoomModel", rfl, by decide, in_Mod, w1155, Or.inl rfl⟩
set_option maxRecDepth 100000 in
theorem w1367 : Cond.code ⟨"SharingRoomModel", "at", "(II)I"⟩ prog_14_method_29_code 3 (some FieldType.int) ∈ jWS := jm 1367 rfl rfl
theorem L0_Mod_at : jL0 y_Mod_at m_Mod_at 2 := ⟨w1367, w75, ⟨by decide +kernel, by decide +kernel⟩, by decide +kernel, by decide +kernel⟩
set_option maxRecDepth 100000 in
theorem w1364 : Cond.methodLink "SharingRoomModel" 303 ⟨"SharingRoomModel", "at", "(II)I"⟩ ∈ jWS := jm 1364 rfl rfl
set_option maxRecDepth 100000 in
theorem w1366 : Cond.instanceMethod ⟨"SharingRoomModel", "at", "(II)I"⟩ ∈ jWS := jm 1366 rfl rfl
set_option maxRecDepth 100000 in
theorem w43 : Cond.selects "SharingRoomModel" ⟨"SharingRoomModel", "at", "(II)I"⟩ ⟨"SharingRoomModel", "at", "(II)I"⟩ ∈ jWS := jm 43 rfl rfl
set_option maxRecDepth 100000 in
theorem w1371 : Cond.code ⟨"SharingRoomModel", "f", "(II)I"⟩ prog_14_method_25_code 5 (some FieldType.int) ∈ jWS := jm 1371 rfl rfl
theorem L0_Mod_f : jL0 y_Mod_f m_Mod_f 2 := ⟨w1371, w75, ⟨by decide +kernel, by decide +kernel⟩, by decide +kernel, by decide +kernel⟩
set_option maxRecDepth 100000 in
theorem w1368 : Cond.methodLink "SharingRoomModel" 306 ⟨"SharingRoomModel", "f", "(II)I"⟩ ∈ jWS := jm 1368 rfl rfl
set_option maxRecDepth 100000 in
theorem w1370 : Cond.instanceMethod ⟨"SharingRoomModel", "f", "(II)I"⟩ ∈ jWS := jm 1370 rfl rfl
set_option maxRecDepth 100000 in
theorem w44 : Cond.selects "SharingRoomModel" ⟨"SharingRoomModel", "f", "(II)I"⟩ ⟨"SharingRoomModel", "f", "(II)I"⟩ ∈ jWS := jm 44 rfl rfl
set_option maxRecDepth 100000 in
theorem w1156 : Cond.fieldLink "SharingRoomModel" 49 "SharingRoomModel" "v" "[I" ∈ jWS := jm 1156 rfl rfl
theorem fl_Mod_49_10 : jFl "SharingRoomModel" 49 10 31 := ⟨"SharingRoomModel", T_Mod, 48, "SharingRoomModel", rfl, by decide, in_Mod, w1156, Or.inl rfl⟩
set_option maxRecDepth 100000 in
theorem w1379 : Cond.code ⟨"SharingRoomModel", "blind", "(II)I"⟩ prog_14_method_26_code 5 (some FieldType.int) ∈ jWS := jm 1379 rfl rfl
theorem L0_Mod_blind : jL0 y_Mod_blind m_Mod_blind 2 := ⟨w1379, w75, ⟨by decide +kernel, by decide +kernel⟩, by decide +kernel, by decide +kernel⟩
set_option maxRecDepth 100000 in
theorem w1376 : Cond.methodLink "SharingRoomModel" 309 ⟨"SharingRoomModel", "blind", "(II)I"⟩ ∈ jWS := jm 1376 rfl rfl
set_option maxRecDepth 100000 in
theorem w1378 : Cond.instanceMethod ⟨"SharingRoomModel", "blind", "(II)I"⟩ ∈ jWS := jm 1378 rfl rfl
set_option maxRecDepth 100000 in
theorem w46 : Cond.selects "SharingRoomModel" ⟨"SharingRoomModel", "blind", "(II)I"⟩ ⟨"SharingRoomModel", "blind", "(II)I"⟩ ∈ jWS := jm 46 rfl rfl
set_option maxRecDepth 100000 in
theorem w1386 : Cond.code ⟨"SharingRoomModel", "in", "(II)Z"⟩ prog_14_method_30_code 2 (some FieldType.boolean) ∈ jWS := jm 1386 rfl rfl
theorem L0_Mod_in : jL0 y_Mod_in m_Mod_in 2 := ⟨w1386, w75, ⟨by decide +kernel, by decide +kernel⟩, by decide +kernel, by decide +kernel⟩
set_option maxRecDepth 100000 in
theorem w1384 : Cond.methodLink "SharingRoomModel" 263 ⟨"SharingRoomModel", "in", "(II)Z"⟩ ∈ jWS := jm 1384 rfl rfl
set_option maxRecDepth 100000 in
theorem w1385 : Cond.static ⟨"SharingRoomModel", "in", "(II)Z"⟩ ∈ jWS := jm 1385 rfl rfl
set_option maxRecDepth 100000 in
theorem w1390 : Cond.code ⟨"SharingRoomModel", "fits", "(IIII)Z"⟩ prog_14_method_27_code 7 (some FieldType.boolean) ∈ jWS := jm 1390 rfl rfl
theorem L0_Mod_fits : jL0 y_Mod_fits m_Mod_fits 4 := ⟨w1390, w75, ⟨by decide +kernel, by decide +kernel⟩, by decide +kernel, by decide +kernel⟩
set_option maxRecDepth 100000 in
theorem w1387 : Cond.methodLink "SharingRoomModel" 312 ⟨"SharingRoomModel", "fits", "(IIII)Z"⟩ ∈ jWS := jm 1387 rfl rfl
set_option maxRecDepth 100000 in
theorem w1389 : Cond.instanceMethod ⟨"SharingRoomModel", "fits", "(IIII)Z"⟩ ∈ jWS := jm 1389 rfl rfl
set_option maxRecDepth 100000 in
theorem w48 : Cond.selects "SharingRoomModel" ⟨"SharingRoomModel", "fits", "(IIII)Z"⟩ ⟨"SharingRoomModel", "fits", "(IIII)Z"⟩ ∈ jWS := jm 48 rfl rfl
set_option maxRecDepth 100000 in
theorem w1157 : Cond.fieldLink "SharingRoomModel" 52 "SharingRoomModel" "answerU" "[I" ∈ jWS := jm 1157 rfl rfl
theorem fl_Mod_52_10 : jFl "SharingRoomModel" 52 10 32 := ⟨"SharingRoomModel", T_Mod, 48, "SharingRoomModel", rfl, by decide, in_Mod, w1157, Or.inl rfl⟩
set_option maxRecDepth 100000 in
theorem w1158 : Cond.fieldLink "SharingRoomModel" 55 "SharingRoomModel" "answerV" "[I" ∈ jWS := jm 1158 rfl rfl
theorem fl_Mod_55_10 : jFl "SharingRoomModel" 55 10 33 := ⟨"SharingRoomModel", T_Mod, 48, "SharingRoomModel", rfl, by decide, in_Mod, w1158, Or.inl rfl⟩
set_option maxRecDepth 100000 in
theorem w1398 : Cond.code ⟨"SharingRoomModel", "showNumbers", "(IIIII)V"⟩ prog_14_method_34_code 6 none ∈ jWS := jm 1398 rfl rfl
theorem L0_Mod_showNumbers : jL0 y_Mod_showNumbers m_Mod_showNumbers 5 := ⟨w1398, w75, ⟨by decide +kernel, by decide +kernel⟩, by decide +kernel, by decide +kernel⟩
set_option maxRecDepth 100000 in
theorem w1395 : Cond.methodLink "SharingRoomModel" 316 ⟨"SharingRoomModel", "showNumbers", "(IIIII)V"⟩ ∈ jWS := jm 1395 rfl rfl
set_option maxRecDepth 100000 in
theorem w1397 : Cond.instanceMethod ⟨"SharingRoomModel", "showNumbers", "(IIIII)V"⟩ ∈ jWS := jm 1397 rfl rfl
set_option maxRecDepth 100000 in
theorem w50 : Cond.selects "SharingRoomModel" ⟨"SharingRoomModel", "showNumbers", "(IIIII)V"⟩ ⟨"SharingRoomModel", "showNumbers", "(IIIII)V"⟩ ∈ jWS := jm 50 rfl rfl
set_option maxRecDepth 100000 in
theorem w1405 : Cond.code ⟨"SharingRoomModel", "bits", "(I)I"⟩ prog_14_method_31_code 3 (some FieldType.int) ∈ jWS := jm 1405 rfl rfl
theorem L0_Mod_bits : jL0 y_Mod_bits m_Mod_bits 1 := ⟨w1405, w75, ⟨by decide +kernel, by decide +kernel⟩, by decide +kernel, by decide +kernel⟩
set_option maxRecDepth 100000 in
theorem w1403 : Cond.methodLink "SharingRoomModel" 320 ⟨"SharingRoomModel", "bits", "(I)I"⟩ ∈ jWS := jm 1403 rfl rfl
set_option maxRecDepth 100000 in
theorem w1404 : Cond.static ⟨"SharingRoomModel", "bits", "(I)I"⟩ ∈ jWS := jm 1404 rfl rfl
set_option maxRecDepth 100000 in
theorem w1161 : Cond.fieldLink "SharingRoomModel" 64 "SharingRoomModel" "shares" "[I" ∈ jWS := jm 1161 rfl rfl
theorem fl_Mod_64_10 : jFl "SharingRoomModel" 64 10 36 := ⟨"SharingRoomModel", T_Mod, 48, "SharingRoomModel", rfl, by decide, in_Mod, w1161, Or.inl rfl⟩
set_option maxRecDepth 100000 in
theorem w1162 : Cond.fieldLink "SharingRoomModel" 67 "SharingRoomModel" "blinds" "[I" ∈ jWS := jm 1162 rfl rfl
theorem fl_Mod_67_10 : jFl "SharingRoomModel" 67 10 37 := ⟨"SharingRoomModel", T_Mod, 48, "SharingRoomModel", rfl, by decide, in_Mod, w1162, Or.inl rfl⟩
set_option maxRecDepth 100000 in
theorem w1160 : Cond.fieldLink "SharingRoomModel" 61 "SharingRoomModel" "e" "[I" ∈ jWS := jm 1160 rfl rfl
theorem fl_Mod_61_10 : jFl "SharingRoomModel" 61 10 35 := ⟨"SharingRoomModel", T_Mod, 48, "SharingRoomModel", rfl, by decide, in_Mod, w1160, Or.inl rfl⟩
set_option maxRecDepth 100000 in
theorem w1425 : Cond.code ⟨"SharingRoomModel", "weight", "(II)I"⟩ prog_14_method_43_code 7 (some FieldType.int) ∈ jWS := jm 1425 rfl rfl
theorem L0_Mod_weight : jL0 y_Mod_weight m_Mod_weight 2 := ⟨w1425, w75, ⟨by decide +kernel, by decide +kernel⟩, by decide +kernel, by decide +kernel⟩
set_option maxRecDepth 100000 in
theorem w1422 : Cond.methodLink "SharingRoomModel" 329 ⟨"SharingRoomModel", "weight", "(II)I"⟩ ∈ jWS := jm 1422 rfl rfl
set_option maxRecDepth 100000 in
theorem w1424 : Cond.instanceMethod ⟨"SharingRoomModel", "weight", "(II)I"⟩ ∈ jWS := jm 1424 rfl rfl
set_option maxRecDepth 100000 in
theorem w56 : Cond.selects "SharingRoomModel" ⟨"SharingRoomModel", "weight", "(II)I"⟩ ⟨"SharingRoomModel", "weight", "(II)I"⟩ ∈ jWS := jm 56 rfl rfl
set_option maxRecDepth 100000 in
theorem w1163 : Cond.fieldLink "SharingRoomModel" 70 "SharingRoomModel" "fresh" "[I" ∈ jWS := jm 1163 rfl rfl
theorem fl_Mod_70_10 : jFl "SharingRoomModel" 70 10 38 := ⟨"SharingRoomModel", T_Mod, 48, "SharingRoomModel", rfl, by decide, in_Mod, w1163, Or.inl rfl⟩
set_option maxRecDepth 100000 in
theorem w1421 : Cond.code ⟨"SharingRoomModel", "atZero", "(I)I"⟩ prog_14_method_44_code 4 (some FieldType.int) ∈ jWS := jm 1421 rfl rfl
theorem L0_Mod_atZero : jL0 y_Mod_atZero m_Mod_atZero 1 := ⟨w1421, w75, ⟨by decide +kernel, by decide +kernel⟩, by decide +kernel, by decide +kernel⟩
set_option maxRecDepth 100000 in
theorem w1418 : Cond.methodLink "SharingRoomModel" 323 ⟨"SharingRoomModel", "atZero", "(I)I"⟩ ∈ jWS := jm 1418 rfl rfl
set_option maxRecDepth 100000 in
theorem w1420 : Cond.instanceMethod ⟨"SharingRoomModel", "atZero", "(I)I"⟩ ∈ jWS := jm 1420 rfl rfl
set_option maxRecDepth 100000 in
theorem w55 : Cond.selects "SharingRoomModel" ⟨"SharingRoomModel", "atZero", "(I)I"⟩ ⟨"SharingRoomModel", "atZero", "(I)I"⟩ ∈ jWS := jm 55 rfl rfl
set_option maxRecDepth 100000 in
theorem w1164 : Cond.fieldLink "SharingRoomModel" 326 "SharingRoomModel" "key" "I" ∈ jWS := jm 1164 rfl rfl
theorem fl_Mod_326_10 : jFl "SharingRoomModel" 326 10 39 := ⟨"SharingRoomModel", T_Mod, 48, "SharingRoomModel", rfl, by decide, in_Mod, w1164, Or.inl rfl⟩
theorem fp_Mod_326_10 : jFp "SharingRoomModel" "open" 326 10 39 (.int) := ⟨fl_Mod_326_10, "SharingRoomModel", T_Mod, 48, ty_Mod, rfl, tk_Mod, nm_Mod, rfl, Or.inl rfl⟩
set_option maxRecDepth 100000 in
theorem w1417 : Cond.code ⟨"SharingRoomModel", "open", "()V"⟩ prog_14_method_42_code 6 none ∈ jWS := jm 1417 rfl rfl
theorem L0_Mod_open : jL0 y_Mod_open m_Mod_open 0 := ⟨w1417, w75, ⟨by decide +kernel, by decide +kernel⟩, by decide +kernel, by decide +kernel⟩
set_option maxRecDepth 100000 in
theorem w1414 : Cond.methodLink "SharingRoomModel" 291 ⟨"SharingRoomModel", "open", "()V"⟩ ∈ jWS := jm 1414 rfl rfl
set_option maxRecDepth 100000 in
theorem w1416 : Cond.instanceMethod ⟨"SharingRoomModel", "open", "()V"⟩ ∈ jWS := jm 1416 rfl rfl
set_option maxRecDepth 100000 in
theorem w54 : Cond.selects "SharingRoomModel" ⟨"SharingRoomModel", "open", "()V"⟩ ⟨"SharingRoomModel", "open", "()V"⟩ ∈ jWS := jm 54 rfl rfl
set_option maxRecDepth 100000 in
theorem w1413 : Cond.code ⟨"SharingRoomModel", "accuse", "()V"⟩ prog_14_method_41_code 7 none ∈ jWS := jm 1413 rfl rfl
theorem L0_Mod_accuse : jL0 y_Mod_accuse m_Mod_accuse 0 := ⟨w1413, w75, ⟨by decide +kernel, by decide +kernel⟩, by decide +kernel, by decide +kernel⟩
set_option maxRecDepth 100000 in
theorem w1410 : Cond.methodLink "SharingRoomModel" 288 ⟨"SharingRoomModel", "accuse", "()V"⟩ ∈ jWS := jm 1410 rfl rfl
set_option maxRecDepth 100000 in
theorem w1412 : Cond.instanceMethod ⟨"SharingRoomModel", "accuse", "()V"⟩ ∈ jWS := jm 1412 rfl rfl
set_option maxRecDepth 100000 in
theorem w53 : Cond.selects "SharingRoomModel" ⟨"SharingRoomModel", "accuse", "()V"⟩ ⟨"SharingRoomModel", "accuse", "()V"⟩ ∈ jWS := jm 53 rfl rfl
set_option maxRecDepth 100000 in
theorem w1409 : Cond.code ⟨"SharingRoomModel", "extract", "()V"⟩ prog_14_method_40_code 4 none ∈ jWS := jm 1409 rfl rfl
theorem L0_Mod_extract : jL0 y_Mod_extract m_Mod_extract 0 := ⟨w1409, w75, ⟨by decide +kernel, by decide +kernel⟩, by decide +kernel, by decide +kernel⟩
set_option maxRecDepth 100000 in
theorem w1406 : Cond.methodLink "SharingRoomModel" 285 ⟨"SharingRoomModel", "extract", "()V"⟩ ∈ jWS := jm 1406 rfl rfl
set_option maxRecDepth 100000 in
theorem w1408 : Cond.instanceMethod ⟨"SharingRoomModel", "extract", "()V"⟩ ∈ jWS := jm 1408 rfl rfl
set_option maxRecDepth 100000 in
theorem w52 : Cond.selects "SharingRoomModel" ⟨"SharingRoomModel", "extract", "()V"⟩ ⟨"SharingRoomModel", "extract", "()V"⟩ ∈ jWS := jm 52 rfl rfl
set_option maxRecDepth 100000 in
theorem w1402 : Cond.code ⟨"SharingRoomModel", "judge", "()V"⟩ prog_14_method_39_code 4 none ∈ jWS := jm 1402 rfl rfl
theorem L0_Mod_judge : jL0 y_Mod_judge m_Mod_judge 0 := ⟨w1402, w75, ⟨by decide +kernel, by decide +kernel⟩, by decide +kernel, by decide +kernel⟩
set_option maxRecDepth 100000 in
theorem w1399 : Cond.methodLink "SharingRoomModel" 282 ⟨"SharingRoomModel", "judge", "()V"⟩ ∈ jWS := jm 1399 rfl rfl
set_option maxRecDepth 100000 in
theorem w1401 : Cond.instanceMethod ⟨"SharingRoomModel", "judge", "()V"⟩ ∈ jWS := jm 1401 rfl rfl
set_option maxRecDepth 100000 in
theorem w51 : Cond.selects "SharingRoomModel" ⟨"SharingRoomModel", "judge", "()V"⟩ ⟨"SharingRoomModel", "judge", "()V"⟩ ∈ jWS := jm 51 rfl rfl
set_option maxRecDepth 100000 in
theorem w1394 : Cond.code ⟨"SharingRoomModel", "answer", "()V"⟩ prog_14_method_38_code 3 none ∈ jWS := jm 1394 rfl rfl
theorem L0_Mod_answer : jL0 y_Mod_answer m_Mod_answer 0 := ⟨w1394, w75, ⟨by decide +kernel, by decide +kernel⟩, by decide +kernel, by decide +kernel⟩
set_option maxRecDepth 100000 in
theorem w1391 : Cond.methodLink "SharingRoomModel" 279 ⟨"SharingRoomModel", "answer", "()V"⟩ ∈ jWS := jm 1391 rfl rfl
set_option maxRecDepth 100000 in
theorem w1393 : Cond.instanceMethod ⟨"SharingRoomModel", "answer", "()V"⟩ ∈ jWS := jm 1393 rfl rfl
set_option maxRecDepth 100000 in
theorem w49 : Cond.selects "SharingRoomModel" ⟨"SharingRoomModel", "answer", "()V"⟩ ⟨"SharingRoomModel", "answer", "()V"⟩ ∈ jWS := jm 49 rfl rfl
set_option maxRecDepth 100000 in
theorem w1383 : Cond.code ⟨"SharingRoomModel", "complain", "()V"⟩ prog_14_method_37_code 3 none ∈ jWS := jm 1383 rfl rfl
theorem L0_Mod_complain : jL0 y_Mod_complain m_Mod_complain 0 := ⟨w1383, w75, ⟨by decide +kernel, by decide +kernel⟩, by decide +kernel, by decide +kernel⟩
set_option maxRecDepth 100000 in
theorem w1380 : Cond.methodLink "SharingRoomModel" 276 ⟨"SharingRoomModel", "complain", "()V"⟩ ∈ jWS := jm 1380 rfl rfl
set_option maxRecDepth 100000 in
theorem w1382 : Cond.instanceMethod ⟨"SharingRoomModel", "complain", "()V"⟩ ∈ jWS := jm 1382 rfl rfl
set_option maxRecDepth 100000 in
theorem w47 : Cond.selects "SharingRoomModel" ⟨"SharingRoomModel", "complain", "()V"⟩ ⟨"SharingRoomModel", "complain", "()V"⟩ ∈ jWS := jm 47 rfl rfl
set_option maxRecDepth 100000 in
theorem w1343 : Cond.code ⟨"SharingRoomModel", "deal", "()V"⟩ prog_14_method_36_code 4 none ∈ jWS := jm 1343 rfl rfl
theorem L0_Mod_deal : jL0 y_Mod_deal m_Mod_deal 0 := ⟨w1343, w75, ⟨by decide +kernel, by decide +kernel⟩, by decide +kernel, by decide +kernel⟩
set_option maxRecDepth 100000 in
theorem w1340 : Cond.methodLink "SharingRoomModel" 273 ⟨"SharingRoomModel", "deal", "()V"⟩ ∈ jWS := jm 1340 rfl rfl
set_option maxRecDepth 100000 in
theorem w1342 : Cond.instanceMethod ⟨"SharingRoomModel", "deal", "()V"⟩ ∈ jWS := jm 1342 rfl rfl
set_option maxRecDepth 100000 in
theorem w37 : Cond.selects "SharingRoomModel" ⟨"SharingRoomModel", "deal", "()V"⟩ ⟨"SharingRoomModel", "deal", "()V"⟩ ∈ jWS := jm 37 rfl rfl
set_option maxRecDepth 100000 in
theorem w1437 : Cond.code ⟨"SharingRoomModel", "mask", "()I"⟩ prog_14_method_46_code 1 (some FieldType.int) ∈ jWS := jm 1437 rfl rfl
theorem L0_Mod_mask : jL0 y_Mod_mask m_Mod_mask 0 := ⟨w1437, w75, ⟨by decide +kernel, by decide +kernel⟩, by decide +kernel, by decide +kernel⟩
set_option maxRecDepth 100000 in
theorem w1434 : Cond.methodLink "SharingRoomModel" 332 ⟨"SharingRoomModel", "mask", "()I"⟩ ∈ jWS := jm 1434 rfl rfl
set_option maxRecDepth 100000 in
theorem w1436 : Cond.instanceMethod ⟨"SharingRoomModel", "mask", "()I"⟩ ∈ jWS := jm 1436 rfl rfl
set_option maxRecDepth 100000 in
theorem w57 : Cond.selects "SharingRoomModel" ⟨"SharingRoomModel", "mask", "()I"⟩ ⟨"SharingRoomModel", "mask", "()I"⟩ ∈ jWS := jm 57 rfl rfl
set_option maxRecDepth 100000 in
theorem w1172 : Cond.fieldLink "SharingRoomModel" 163 "SharingRoomModel" "turn" "[I" ∈ jWS := jm 1172 rfl rfl
theorem fl_Mod_163_10 : jFl "SharingRoomModel" 163 10 47 := ⟨"SharingRoomModel", T_Mod, 48, "SharingRoomModel", rfl, by decide, in_Mod, w1172, Or.inl rfl⟩
set_option maxRecDepth 100000 in
theorem w1480 : Cond.code ⟨"SharingRoomModel", "right", "(II)I"⟩ prog_14_method_55_code 2 (some FieldType.int) ∈ jWS := jm 1480 rfl rfl
theorem L0_Mod_right : jL0 y_Mod_right m_Mod_right 2 := ⟨w1480, w75, ⟨by decide +kernel, by decide +kernel⟩, by decide +kernel, by decide +kernel⟩
set_option maxRecDepth 100000 in
theorem w1478 : Cond.methodLink "SharingRoomModel" 339 ⟨"SharingRoomModel", "right", "(II)I"⟩ ∈ jWS := jm 1478 rfl rfl
set_option maxRecDepth 100000 in
theorem w1479 : Cond.static ⟨"SharingRoomModel", "right", "(II)I"⟩ ∈ jWS := jm 1479 rfl rfl
set_option maxRecDepth 100000 in
theorem w1168 : Cond.fieldLink "SharingRoomModel" 143 "SharingRoomModel" "k2" "[I" ∈ jWS := jm 1168 rfl rfl
theorem fl_Mod_143_10 : jFl "SharingRoomModel" 143 10 43 := ⟨"SharingRoomModel", T_Mod, 48, "SharingRoomModel", rfl, by decide, in_Mod, w1168, Or.inl rfl⟩
set_option maxRecDepth 100000 in
theorem w1167 : Cond.fieldLink "SharingRoomModel" 108 "SharingRoomModel" "k1" "[I" ∈ jWS := jm 1167 rfl rfl
theorem fl_Mod_108_10 : jFl "SharingRoomModel" 108 10 42 := ⟨"SharingRoomModel", T_Mod, 48, "SharingRoomModel", rfl, by decide, in_Mod, w1167, Or.inl rfl⟩
set_option maxRecDepth 100000 in
theorem w1171 : Cond.fieldLink "SharingRoomModel" 160 "SharingRoomModel" "word" "[I" ∈ jWS := jm 1171 rfl rfl
theorem fl_Mod_160_10 : jFl "SharingRoomModel" 160 10 46 := ⟨"SharingRoomModel", T_Mod, 48, "SharingRoomModel", rfl, by decide, in_Mod, w1171, Or.inl rfl⟩
set_option maxRecDepth 100000 in
theorem w1477 : Cond.code ⟨"SharingRoomModel", "padded", "(II)I"⟩ prog_14_method_56_code 3 (some FieldType.int) ∈ jWS := jm 1477 rfl rfl
theorem L0_Mod_padded : jL0 y_Mod_padded m_Mod_padded 2 := ⟨w1477, w75, ⟨by decide +kernel, by decide +kernel⟩, by decide +kernel, by decide +kernel⟩
set_option maxRecDepth 100000 in
theorem w1474 : Cond.methodLink "SharingRoomModel" 336 ⟨"SharingRoomModel", "padded", "(II)I"⟩ ∈ jWS := jm 1474 rfl rfl
set_option maxRecDepth 100000 in
theorem w1476 : Cond.instanceMethod ⟨"SharingRoomModel", "padded", "(II)I"⟩ ∈ jWS := jm 1476 rfl rfl
set_option maxRecDepth 100000 in
theorem w59 : Cond.selects "SharingRoomModel" ⟨"SharingRoomModel", "padded", "(II)I"⟩ ⟨"SharingRoomModel", "padded", "(II)I"⟩ ∈ jWS := jm 59 rfl rfl
set_option maxRecDepth 100000 in
theorem w1169 : Cond.fieldLink "SharingRoomModel" 146 "SharingRoomModel" "hash" "[I" ∈ jWS := jm 1169 rfl rfl
theorem fl_Mod_146_10 : jFl "SharingRoomModel" 146 10 44 := ⟨"SharingRoomModel", T_Mod, 48, "SharingRoomModel", rfl, by decide, in_Mod, w1169, Or.inl rfl⟩
set_option maxRecDepth 100000 in
theorem w1484 : Cond.code ⟨"SharingRoomModel", "mix", "(I)V"⟩ prog_14_method_58_code 7 none ∈ jWS := jm 1484 rfl rfl
theorem L0_Mod_mix : jL0 y_Mod_mix m_Mod_mix 1 := ⟨w1484, w75, ⟨by decide +kernel, by decide +kernel⟩, by decide +kernel, by decide +kernel⟩
set_option maxRecDepth 100000 in
theorem w1481 : Cond.methodLink "SharingRoomModel" 342 ⟨"SharingRoomModel", "mix", "(I)V"⟩ ∈ jWS := jm 1481 rfl rfl
set_option maxRecDepth 100000 in
theorem w1483 : Cond.instanceMethod ⟨"SharingRoomModel", "mix", "(I)V"⟩ ∈ jWS := jm 1483 rfl rfl
set_option maxRecDepth 100000 in
theorem w60 : Cond.selects "SharingRoomModel" ⟨"SharingRoomModel", "mix", "(I)V"⟩ ⟨"SharingRoomModel", "mix", "(I)V"⟩ ∈ jWS := jm 60 rfl rfl
set_option maxRecDepth 100000 in
theorem w1170 : Cond.fieldLink "SharingRoomModel" 157 "SharingRoomModel" "start" "[I" ∈ jWS := jm 1170 rfl rfl
theorem fl_Mod_157_10 : jFl "SharingRoomModel" 157 10 45 := ⟨"SharingRoomModel", T_Mod, 48, "SharingRoomModel", rfl, by decide, in_Mod, w1170, Or.inl rfl⟩
set_option maxRecDepth 100000 in
theorem w1473 : Cond.code ⟨"SharingRoomModel", "block", "(II)V"⟩ prog_14_method_57_code 6 none ∈ jWS := jm 1473 rfl rfl
theorem L0_Mod_block : jL0 y_Mod_block m_Mod_block 2 := ⟨w1473, w75, ⟨by decide +kernel, by decide +kernel⟩, by decide +kernel, by decide +kernel⟩
set_option maxRecDepth 100000 in
theorem w1470 : Cond.methodLink "SharingRoomModel" 345 ⟨"SharingRoomModel", "block", "(II)V"⟩ ∈ jWS := jm 1470 rfl rfl
set_option maxRecDepth 100000 in
theorem w1472 : Cond.instanceMethod ⟨"SharingRoomModel", "block", "(II)V"⟩ ∈ jWS := jm 1472 rfl rfl
set_option maxRecDepth 100000 in
theorem w58 : Cond.selects "SharingRoomModel" ⟨"SharingRoomModel", "block", "(II)V"⟩ ⟨"SharingRoomModel", "block", "(II)V"⟩ ∈ jWS := jm 58 rfl rfl
set_option maxRecDepth 100000 in
theorem w1492 : Cond.code ⟨"SharingRoomModel", "enough", "(I)Z"⟩ prog_14_method_60_code 2 (some FieldType.boolean) ∈ jWS := jm 1492 rfl rfl
theorem L0_Mod_enough : jL0 y_Mod_enough m_Mod_enough 1 := ⟨w1492, w75, ⟨by decide +kernel, by decide +kernel⟩, by decide +kernel, by decide +kernel⟩
set_option maxRecDepth 100000 in
theorem w1489 : Cond.methodLink "SharingRoomModel" 349 ⟨"SharingRoomModel", "enough", "(I)Z"⟩ ∈ jWS := jm 1489 rfl rfl
set_option maxRecDepth 100000 in
theorem w1491 : Cond.instanceMethod ⟨"SharingRoomModel", "enough", "(I)Z"⟩ ∈ jWS := jm 1491 rfl rfl
set_option maxRecDepth 100000 in
theorem w61 : Cond.selects "SharingRoomModel" ⟨"SharingRoomModel", "enough", "(I)Z"⟩ ⟨"SharingRoomModel", "enough", "(I)Z"⟩ ∈ jWS := jm 61 rfl rfl
end
section
def L_Mod_added_65 (x5 : Int32) (x10 : Int32) : Nat → Int32 → Option (Int32)
  | 0, _ => none
  | n + 1, x13 =>
    if (jrem (x13 * x10) 43) = (jrem x5 43) then
      some x13
    else
      jlet (x13 + 1) fun x15 =>
      L_Mod_added_65 x5 x10 n x15

def f_Mod_added (p0 : Int32) : Option (Int32) :=
  jlet (p0 / 64) fun x1 =>
  jlet (jrem p0 64) fun x2 =>
  Option.bind (α := Int32) (
    if ¬ x1 = 2 then
      some ((x2 - 12) + 43)
    else
      if ¬ x2 = 12 then
        some ((x2 - 12) + 43)
      else
        some ((3 * x1) * x1)) fun x5 =>
  Option.bind (α := Int32) (
    if ¬ x1 = 2 then
      some ((x1 - 2) + 43)
    else
      if ¬ x2 = 12 then
        some ((x1 - 2) + 43)
      else
        some (2 * x2)) fun x10 =>
  Option.bind (L_Mod_added_65 x5 x10 jF 0) fun x17 =>
  jlet (jrem ((((x17 * x17) - x1) - 2) + 86) 43) fun x19 =>
  jlet (jrem (((x17 * ((x1 - x19) + 43)) - x2) + 43) 43) fun x20 =>
  some ((64 * x19) + x20)

def f_Mod_thrown (s : jS) : Option (Int32) :=
  some (s 0 0)

def f_Mod_field (p0 : Int32) (s : jS) : Option (jS) :=
  Option.bind (α := Int32) (
    if p0 < 0 then
      some 1
    else
      if p0 ≤ 2 then
        some 0
      else
        some 1) fun x3 =>
  jlet (va_up s 0 (fun _ => x3)) fun s6 =>
  if (s6 0 0) ≤ 0 then
    jlet (va_up s6 1 (fun _ => p0)) fun s9 =>
    jlet (va_up s9 2 (fun _ => 0)) fun s11 =>
    some s11
  else
    some s6

def f_Mod_order (p0 : Int32) : Option (Int32) :=
  Option.bind (α := Int32) (
    if ¬ p0 = 0 then
      if ¬ p0 = 1 then
        some 31
      else
        some 1019
    else
      some 256) fun x3 =>
  some x3

def f_Mod_isElement (p0 : Int32) (p1 : Int32) : Option (Int32) :=
  Option.bind (α := Int32) (
    if p1 < 0 then
      some 0
    else
      Option.bind (f_Mod_order p0) fun x2 =>
      if x2 ≤ p1 then
        some 0
      else
        some 1) fun x5 =>
  if jbo x5 then
  some x5
  else none

def L_Mod_point_51 (p0 : Int32) : Nat → Int32 → jS → Option (Int32 × jS)
  | 0, _, _ => none
  | n + 1, x14, s15 =>
    if (s15 2 0) ≤ x14 then
      some (x14, s15)
    else
      if ¬ (s15 0 0) = 0 then
        some (x14, s15)
      else
        if jin x14 12 then
        Option.bind (α := Int32) (
          if ¬ (s15 3 x14.toNatClampNeg) = p0 then
            some 0
          else
            some 2) fun x20 =>
        jlet (va_up s15 0 (fun _ => x20)) fun s23 =>
        jlet (x14 + 1) fun x25 =>
        L_Mod_point_51 p0 n x25 s23
        else none

def f_Mod_point (p0 : Int32) (p1 : Int32) (s : jS) : Option (Int32 × jS) :=
  Option.bind (α := Int32) (
    if p0 < 1 then
      some 1
    else
      Option.bind (f_Mod_isElement (s 1 0) p0) fun x2 =>
      if x2 = 0 then
        some 1
      else
        Option.bind (f_Mod_isElement (s 1 0) p1) fun x5 =>
        if ¬ x5 = 0 then
          if ¬ (s 2 0) = 12 then
            some 0
          else
            some 2
        else
          some 1) fun x9 =>
  jlet (va_up s 0 (fun _ => x9)) fun s12 =>
  Option.bind (L_Mod_point_51 p0 jF 0 s12) fun (x27, s28) =>
  if (s28 0 0) ≤ 0 then
    if jin (s28 2 0) 12 then
    jlet (va_up s28 3 (upd (s28 3) (s28 2 0).toNatClampNeg p0)) fun s31 =>
    if jin (s31 2 0) 12 then
    jlet (va_up s31 4 (upd (s31 4) (s31 2 0).toNatClampNeg p1)) fun s34 =>
    jlet (va_up s34 2 (fun _ => (s34 2 0) + 1)) fun s37 =>
    some (s37 2 0, s37)
    else none
    else none
  else
    some (0, s28)

def f_Mod_less (p0 : Int32) (p1 : Int32) (p2 : Int32) : Option (Int32) :=
  Option.bind (α := Int32) (
    if ¬ p0 = 0 then
      Option.bind (f_Mod_order p0) fun x2 =>
      Option.bind (f_Mod_order p0) fun x4 =>
      if ¬ x4 = 0 then
      some (jrem ((p1 - p2) + x2) x4)
      else none
    else
      some (p1 ^^^ p2)) fun x7 =>
  some x7

def L_Mod_times_19 (p1 : Int32) (p2 : Int32) : Nat → Int32 → Int32 → Option (Int32 × Int32)
  | 0, _, _ => none
  | n + 1, x2, x3 =>
    if x3 < 0 then
      some (x2, x3)
    else
      Option.bind (α := Int32) (
        if (x2 &&& 128) = 0 then
          some (x2 <<< (1 &&& 31))
        else
          some ((x2 <<< (1 &&& 31)) ^^^ 283)) fun x6 =>
      Option.bind (α := Int32) (
        if ¬ ((p2 >>> (x3 &&& 31)) &&& 1) = 1 then
          some x6
        else
          some (x6 ^^^ p1)) fun x10 =>
      jlet (x3 + (-1)) fun x13 =>
      L_Mod_times_19 p1 p2 n x10 x13

def f_Mod_times (p0 : Int32) (p1 : Int32) (p2 : Int32) : Option (Int32) :=
  if p0 ≤ 0 then
    Option.bind (L_Mod_times_19 p1 p2 jF 0 7) fun (x15, x16) =>
    some x15
  else
    Option.bind (f_Mod_order p0) fun x18 =>
    if ¬ x18 = 0 then
    some (jrem (p1 * p2) x18)
    else none

def L_Mod_over_2 (p0 : Int32) (p1 : Int32) (p2 : Int32) : Nat → Int32 → Option (Int32)
  | 0, _ => none
  | n + 1, x1 =>
    Option.bind (f_Mod_times p0 x1 p2) fun x2 =>
    if x2 = p1 then
      some x1
    else
      jlet (x1 + 1) fun x5 =>
      L_Mod_over_2 p0 p1 p2 n x5

def f_Mod_over (p0 : Int32) (p1 : Int32) (p2 : Int32) : Option (Int32) :=
  Option.bind (L_Mod_over_2 p0 p1 p2 jF 0) fun x7 =>
  some x7

def L_Mod_divide_45 (x13 : Int32) : Nat → Int32 → jS → Option (Int32 × jS)
  | 0, _, _ => none
  | n + 1, x17, s18 =>
    if x17 < x13 then
      some (x17, s18)
    else
      if jin x17 12 then
      if jin (x17 - 1) 12 then
      Option.bind (f_Mod_less (s18 1 0) (s18 5 x17.toNatClampNeg) (s18 5 (x17 - 1).toNatClampNeg)) fun x22 =>
      if jin x17 12 then
      if jin (x17 - x13) 12 then
      Option.bind (f_Mod_less (s18 1 0) (s18 3 x17.toNatClampNeg) (s18 3 (x17 - x13).toNatClampNeg)) fun x26 =>
      Option.bind (f_Mod_over (s18 1 0) x22 x26) fun x28 =>
      if jin x17 12 then
      jlet (va_up s18 5 (upd (s18 5) x17.toNatClampNeg x28)) fun s30 =>
      jlet (x17 + (-1)) fun x33 =>
      L_Mod_divide_45 x13 n x33 s30
      else none
      else none
      else none
      else none
      else none

def L_Mod_divide_30 : Nat → Int32 → jS → Option (Int32 × jS)
  | 0, _, _ => none
  | n + 1, x13, s14 =>
    if (s14 2 0) ≤ x13 then
      some (x13, s14)
    else
      jlet ((s14 2 0) - 1) fun x16 =>
      Option.bind (L_Mod_divide_45 x13 jF x16 s14) fun (x35, s36) =>
      jlet (x13 + 1) fun x38 =>
      L_Mod_divide_30 n x38 s36

def L_Mod_divide_2 : Nat → Int32 → jS → Option (Int32 × jS)
  | 0, _, _ => none
  | n + 1, x1, s2 =>
    if (s2 2 0) ≤ x1 then
      some (x1, s2)
    else
      if jin x1 12 then
      if jin x1 12 then
      jlet (va_up s2 5 (upd (s2 5) x1.toNatClampNeg (s2 4 x1.toNatClampNeg))) fun s5 =>
      jlet (x1 + 1) fun x8 =>
      L_Mod_divide_2 n x8 s5
      else none
      else none

def f_Mod_divide (s : jS) : Option (jS) :=
  Option.bind (L_Mod_divide_2 jF 0 s) fun (x10, s11) =>
  Option.bind (L_Mod_divide_30 jF 1 s11) fun (x41, s42) =>
  some s42

def f_Mod_plus (p0 : Int32) (p1 : Int32) (p2 : Int32) : Option (Int32) :=
  Option.bind (α := Int32) (
    if ¬ p0 = 0 then
      Option.bind (f_Mod_order p0) fun x2 =>
      if ¬ x2 = 0 then
      some (jrem (p1 + p2) x2)
      else none
    else
      some (p1 ^^^ p2)) fun x5 =>
  some x5

def L_Mod_combine_53 (p0 : Int32) (s11 : jS) : Nat → Int32 → Int32 → Option (Int32 × Int32)
  | 0, _, _ => none
  | n + 1, x14, x15 =>
    if x15 < 0 then
      some (x14, x15)
    else
      if jin x15 12 then
      Option.bind (f_Mod_less (s11 1 0) p0 (s11 3 x15.toNatClampNeg)) fun x18 =>
      Option.bind (f_Mod_times (s11 1 0) x14 x18) fun x20 =>
      if jin x15 12 then
      Option.bind (f_Mod_plus (s11 1 0) x20 (s11 5 x15.toNatClampNeg)) fun x23 =>
      jlet (x15 + (-1)) fun x25 =>
      L_Mod_combine_53 p0 s11 n x23 x25
      else none
      else none

def f_Mod_combine (p0 : Int32) (s : jS) : Option (Int32 × jS) :=
  Option.bind (f_Mod_isElement (s 1 0) p0) fun x1 =>
  Option.bind (α := Int32) (
    if ¬ x1 = 0 then
      if ¬ (s 2 0) = 0 then
        some 0
      else
        some 2
    else
      some 1) fun x5 =>
  jlet (va_up s 0 (fun _ => x5)) fun s8 =>
  if (s8 0 0) ≤ 0 then
    Option.bind (f_Mod_divide s8) fun s11 =>
    jlet ((s11 2 0) - 1) fun x13 =>
    Option.bind (L_Mod_combine_53 p0 s11 jF 0 x13) fun (x27, x28) =>
    some (x27, s11)
  else
    some (0, s8)

def L_Mod_degree_14 (s3 : jS) : Nat → Int32 → Option (Int32)
  | 0, _ => none
  | n + 1, x6 =>
    if x6 ≤ 0 then
      some x6
    else
      if jin (x6 - 1) 12 then
      if ¬ (s3 5 (x6 - 1).toNatClampNeg) = 0 then
        some x6
      else
        jlet (x6 + (-1)) fun x10 =>
        L_Mod_degree_14 s3 n x10
      else none

def f_Mod_degree (s : jS) : Option (Int32 × jS) :=
  jlet (va_up s 0 (fun _ => 0)) fun s1 =>
  Option.bind (f_Mod_divide s1) fun s3 =>
  jlet (s3 2 0) fun x5 =>
  Option.bind (L_Mod_degree_14 s3 jF x5) fun x12 =>
  some (x12, s3)

def L_Mod_forget_37 : Nat → Int32 → jS → Option (Int32 × jS)
  | 0, _, _ => none
  | n + 1, x18, s19 =>
    if 7 ≤ x18 then
      some (x18, s19)
    else
      if jin x18 7 then
      jlet (va_up s19 22 (upd (s19 22) x18.toNatClampNeg 8)) fun s21 =>
      jlet (x18 + 1) fun x24 =>
      L_Mod_forget_37 n x24 s21
      else none

def L_Mod_forget_2 : Nat → Int32 → jS → Option (Int32 × jS)
  | 0, _, _ => none
  | n + 1, x1, s2 =>
    if 49 ≤ x1 then
      some (x1, s2)
    else
      if jin x1 49 then
      jlet (va_up s2 19 (upd (s2 19) x1.toNatClampNeg 0)) fun s4 =>
      if jin x1 49 then
      jlet (va_up s4 20 (upd (s4 20) x1.toNatClampNeg 0)) fun s7 =>
      if jin x1 49 then
      jlet (va_up s7 21 (upd (s7 21) x1.toNatClampNeg 0)) fun s10 =>
      jlet (x1 + 1) fun x13 =>
      L_Mod_forget_2 n x13 s10
      else none
      else none
      else none

def f_Mod_forget (s : jS) : Option (jS) :=
  Option.bind (L_Mod_forget_2 jF 0 s) fun (x15, s16) =>
  Option.bind (L_Mod_forget_37 jF 0 s16) fun (x26, s27) =>
  some s27

def L_Mod_begin_150 : Nat → Int32 → jS → Option (Int32 × jS)
  | 0, _, _ => none
  | n + 1, x49, s50 =>
    if 7 ≤ x49 then
      some (x49, s50)
    else
      if jin x49 7 then
      jlet (va_up s50 28 (upd (s50 28) x49.toNatClampNeg 0)) fun s52 =>
      if jin x49 7 then
      jlet (va_up s52 29 (upd (s52 29) x49.toNatClampNeg 0)) fun s55 =>
      jlet (x49 + 1) fun x58 =>
      L_Mod_begin_150 n x58 s55
      else none
      else none

def f_Mod_begin (p0 : Int32) (p1 : Int32) (p2 : Int32) (s : jS) : Option (jS) :=
  Option.bind (α := Int32) (
    if p0 < 0 then
      some 1
    else
      if 1 < p0 then
        some 1
      else
        if p1 < 1 then
          some 1
        else
          if 7 < p1 then
            some 1
          else
            if p2 < 1 then
              some 1
            else
              if p2 ≤ p1 then
                some 0
              else
                some 1) fun x7 =>
  jlet (va_up s 0 (fun _ => x7)) fun s10 =>
  if (s10 0 0) ≤ 0 then
    jlet (va_up s10 9 (fun _ => p0)) fun s13 =>
    Option.bind (α := Int32) (
      if ¬ (s13 9 0) = 0 then
        some 31
      else
        some 1019) fun x16 =>
    jlet (va_up s13 10 (fun _ => x16)) fun s19 =>
    jlet (va_up s19 11 (fun _ => p1)) fun s21 =>
    jlet (va_up s21 12 (fun _ => p2)) fun s23 =>
    jlet (va_up s23 13 (fun _ => s23 11 0)) fun s25 =>
    jlet (va_up s25 14 (fun _ => s25 12 0)) fun s27 =>
    jlet (va_up s27 15 (fun _ => 1)) fun s29 =>
    jlet (va_up s29 16 (fun _ => 0)) fun s31 =>
    jlet (va_up s31 17 (fun _ => 0)) fun s33 =>
    jlet (va_up s33 18 (fun _ => 0)) fun s35 =>
    jlet (va_up s35 40 (fun _ => 0)) fun s37 =>
    jlet (va_up s37 23 (fun _ => 0)) fun s39 =>
    jlet (va_up s39 24 (fun _ => 0)) fun s41 =>
    jlet (va_up s41 25 (fun _ => 0)) fun s43 =>
    jlet (va_up s43 26 (fun _ => 0)) fun s45 =>
    jlet (va_up s45 27 (fun _ => 0)) fun s47 =>
    Option.bind (L_Mod_begin_150 jF 0 s47) fun (x60, s61) =>
    Option.bind (f_Mod_forget s61) fun s63 =>
    some s63
  else
    some s10

def f_Mod_isParty (p0 : Int32) (s : jS) : Option (Int32) :=
  Option.bind (α := Int32) (
    if (s 15 0) = 0 then
      some 0
    else
      if p0 < 1 then
        some 0
      else
        if (s 11 0) < p0 then
          some 0
        else
          some 1) fun x4 =>
  if jbo x4 then
  some x4
  else none

def f_Mod_give (p0 : Int32) (p1 : Int32) (p2 : Int32) (p3 : Int32) (s : jS) : Option (jS) :=
  Option.bind (α := Int32) (
    if (s 15 0) = 0 then
      some 1
    else
      if (s 18 0) ≤ 0 then
        Option.bind (f_Mod_isParty p0 s) fun x3 =>
        if x3 = 0 then
          some 2
        else
          if p1 < 0 then
            some 2
          else
            if (s 12 0) ≤ p1 then
              some 2
            else
              if p2 < 0 then
                some 2
              else
                if p2 ≤ 1 then
                  some 0
                else
                  some 2
      else
        if ¬ (s 16 0) = 0 then
          Option.bind (f_Mod_isParty p0 s) fun x11 =>
          if x11 = 0 then
            some 2
          else
            if p1 < 0 then
              some 2
            else
              if (s 12 0) ≤ p1 then
                some 2
              else
                if p2 < 0 then
                  some 2
                else
                  if p2 ≤ 1 then
                    some 0
                  else
                    some 2
        else
          if ¬ (s 17 0) = 0 then
            Option.bind (f_Mod_isParty p0 s) fun x19 =>
            if x19 = 0 then
              some 2
            else
              if p1 < 0 then
                some 2
              else
                if (s 12 0) ≤ p1 then
                  some 2
                else
                  if p2 < 0 then
                    some 2
                  else
                    if p2 ≤ 1 then
                      some 0
                    else
                      some 2
          else
            some 1) fun x26 =>
  jlet (va_up s 0 (fun _ => x26)) fun s29 =>
  if (s29 0 0) ≤ 0 then
    if ¬ (s29 10 0) = 0 then
    jlet (jrem p3 (s29 10 0)) fun x33 =>
    Option.bind (α := Int32) (
      if 0 ≤ x33 then
        some x33
      else
        some (x33 + (s29 10 0))) fun x35 =>
    Option.bind (α := jS) (
      if ¬ p2 = 0 then
        if jin (((7 * p0) - 7) + p1) 49 then
        jlet (va_up s29 20 (upd (s29 20) (((7 * p0) - 7) + p1).toNatClampNeg x35)) fun s39 =>
        some s39
        else none
      else
        if jin (((7 * p0) - 7) + p1) 49 then
        jlet (va_up s29 19 (upd (s29 19) (((7 * p0) - 7) + p1).toNatClampNeg x35)) fun s42 =>
        some s42
        else none) fun s45 =>
    some s45
    else none
  else
    some s29

def f_Mod_fault (p0 : Int32) (p1 : Int32) (p2 : Int32) (s : jS) : Option (jS) :=
  Option.bind (α := Int32) (
    if p1 = 1 then
      some 1
    else
      if ¬ p1 = 2 then
        some 0
      else
        some 1) fun x3 =>
  Option.bind (α := Int32) (
    if (s 15 0) = 0 then
      some 1
    else
      if (s 18 0) ≤ 0 then
        if p1 < 0 then
          some 2
        else
          if 6 < p1 then
            some 2
          else
            Option.bind (f_Mod_isParty p0 s) fun x10 =>
            if x10 = 0 then
              some 2
            else
              if x3 = 0 then
                some 0
              else
                Option.bind (f_Mod_isParty p2 s) fun x14 =>
                if x14 = 0 then
                  some 2
                else
                  if ¬ p2 = p0 then
                    some 0
                  else
                    some 2
      else
        some 1) fun x18 =>
  jlet (va_up s 0 (fun _ => x18)) fun s21 =>
  Option.bind (α := jS) (
    if ¬ (s21 0 0) = 0 then
      some s21
    else
      Option.bind (α := Int32) (
        if x3 = 0 then
          some 1
        else
          some p2) fun x25 =>
      if jin (((7 * p1) + p0) - 1) 49 then
      jlet (va_up s21 21 (upd (s21 21) (((7 * p1) + p0) - 1).toNatClampNeg x25)) fun s28 =>
      some s28
      else none) fun s31 =>
  some s31

def f_Mod_crash (p0 : Int32) (p1 : Int32) (s : jS) : Option (jS) :=
  Option.bind (α := Int32) (
    if (s 15 0) = 0 then
      some 1
    else
      if (s 18 0) ≤ 0 then
        Option.bind (f_Mod_isParty p0 s) fun x3 =>
        if x3 = 0 then
          some 2
        else
          if p1 < 1 then
            some 2
          else
            if p1 ≤ 8 then
              some 0
            else
              some 2
      else
        some 1) fun x8 =>
  jlet (va_up s 0 (fun _ => x8)) fun s11 =>
  Option.bind (α := jS) (
    if ¬ (s11 0 0) = 0 then
      some s11
    else
      if jin (p0 - 1) 7 then
      jlet (va_up s11 22 (upd (s11 22) (p0 - 1).toNatClampNeg p1)) fun s14 =>
      some s14
      else none) fun s17 =>
  some s17

def f_Mod_works (p0 : Int32) (p1 : Int32) (s : jS) : Option (Int32) :=
  if jin (p0 - 1) 7 then
  Option.bind (α := Int32) (
    if (s 22 (p0 - 1).toNatClampNeg) = 8 then
      some 1
    else
      if jin (p0 - 1) 7 then
      if (s 22 (p0 - 1).toNatClampNeg) ≤ p1 then
        some 0
      else
        some 1
      else none) fun x5 =>
  if jbo x5 then
  some x5
  else none
  else none

def f_Mod_is (p0 : Int32) (p1 : Int32) (s : jS) : Option (Int32) :=
  if jin (((7 * p1) + p0) - 1) 49 then
  Option.bind (α := Int32) (
    if (s 21 (((7 * p1) + p0) - 1).toNatClampNeg) ≤ 0 then
      some 0
    else
      some 1) fun x3 =>
  if jbo x3 then
  some x3
  else none
  else none

def f_Mod_show (p0 : Int32) (s : jS) : Option (jS) :=
  if jin (s 40 0) 1100 then
  jlet (va_up s 41 (upd (s 41) (s 40 0).toNatClampNeg p0)) fun s1 =>
  jlet (va_up s1 40 (fun _ => (s1 40 0) + 1)) fun s4 =>
  some s4
  else none

def f_Mod_element (p0 : Int32) (s : jS) : Option (Int32) :=
  Option.bind (α := Int32) (
    if ¬ (s 9 0) = 0 then
      if jin p0 31 then
      some (s 7 p0.toNatClampNeg)
      else none
    else
      if jin p0 1019 then
      some (s 6 p0.toNatClampNeg)
      else none) fun x4 =>
  some x4

def f_Mod_showTwo (p0 : Int32) (s : jS) : Option (jS) :=
  Option.bind (f_Mod_show (p0 >>> (8 &&& 31)) s) fun s1 =>
  Option.bind (f_Mod_show (p0 &&& 255) s1) fun s3 =>
  some s3

def f_Mod_at (p0 : Int32) (p1 : Int32) : Option (Int32) :=
  some ((((7 * p0) - 7) + p1) - 1)

def L_Mod_power_5 (p0 : Int32) (p1 : Int32) (s : jS) : Nat → Int32 → Int32 → Option (Int32 × Int32)
  | 0, _, _ => none
  | n + 1, x1, x2 =>
    if p1 ≤ x2 then
      some (x1, x2)
    else
      if ¬ (s 10 0) = 0 then
      jlet (jrem (x1 * p0) (s 10 0)) fun x5 =>
      jlet (x2 + 1) fun x6 =>
      L_Mod_power_5 p0 p1 s n x5 x6
      else none

def f_Mod_power (p0 : Int32) (p1 : Int32) (s : jS) : Option (Int32) :=
  Option.bind (L_Mod_power_5 p0 p1 s jF 1 0) fun (x9, x10) =>
  some x9

def L_Mod_f_5 (p0 : Int32) (p1 : Int32) (s : jS) : Nat → Int32 → Int32 → Option (Int32 × Int32)
  | 0, _, _ => none
  | n + 1, x1, x2 =>
    if (s 12 0) ≤ x2 then
      some (x1, x2)
    else
      if jin (((7 * p0) - 7) + x2) 49 then
      Option.bind (f_Mod_power p1 x2 s) fun x5 =>
      if ¬ (s 10 0) = 0 then
      jlet (jrem (x1 + ((s 19 (((7 * p0) - 7) + x2).toNatClampNeg) * x5)) (s 10 0)) fun x8 =>
      jlet (x2 + 1) fun x9 =>
      L_Mod_f_5 p0 p1 s n x8 x9
      else none
      else none

def f_Mod_f (p0 : Int32) (p1 : Int32) (s : jS) : Option (Int32) :=
  Option.bind (L_Mod_f_5 p0 p1 s jF 0 0) fun (x12, x13) =>
  some x12

def L_Mod_blind_5 (p0 : Int32) (p1 : Int32) (s : jS) : Nat → Int32 → Int32 → Option (Int32 × Int32)
  | 0, _, _ => none
  | n + 1, x1, x2 =>
    if (s 12 0) ≤ x2 then
      some (x1, x2)
    else
      if jin (((7 * p0) - 7) + x2) 49 then
      Option.bind (f_Mod_power p1 x2 s) fun x5 =>
      if ¬ (s 10 0) = 0 then
      jlet (jrem (x1 + ((s 20 (((7 * p0) - 7) + x2).toNatClampNeg) * x5)) (s 10 0)) fun x8 =>
      jlet (x2 + 1) fun x9 =>
      L_Mod_blind_5 p0 p1 s n x8 x9
      else none
      else none

def f_Mod_blind (p0 : Int32) (p1 : Int32) (s : jS) : Option (Int32) :=
  Option.bind (L_Mod_blind_5 p0 p1 s jF 0 0) fun (x12, x13) =>
  some x12

def L_Mod_deal_131 (x1 : Int32) : Nat → Int32 → jS → Option (Int32 × jS)
  | 0, _, _ => none
  | n + 1, x38, s39 =>
    if (s39 11 0) < x38 then
      some (x38, s39)
    else
      Option.bind (f_Mod_at x1 x38) fun x41 =>
      Option.bind (f_Mod_f x1 x38 s39) fun x43 =>
      if jin ((7 + x1) - 1) 49 then
      Option.bind (α := Int32) (
        if ¬ (s39 21 ((7 + x1) - 1).toNatClampNeg) = x38 then
          some 0
        else
          some 1) fun x47 =>
      if ¬ (s39 10 0) = 0 then
      if jin x41 49 then
      jlet (va_up s39 30 (upd (s39 30) x41.toNatClampNeg (jrem (x43 + x47) (s39 10 0)))) fun s51 =>
      Option.bind (f_Mod_at x1 x38) fun x54 =>
      Option.bind (f_Mod_blind x1 x38 s51) fun x56 =>
      if jin x54 49 then
      jlet (va_up s51 31 (upd (s51 31) x54.toNatClampNeg x56)) fun s58 =>
      jlet (x38 + 1) fun x61 =>
      L_Mod_deal_131 x1 n x61 s58
      else none
      else none
      else none
      else none

def L_Mod_deal_57 (x1 : Int32) : Nat → Int32 → jS → Option (Int32 × jS)
  | 0, _, _ => none
  | n + 1, x16, s17 =>
    if (s17 12 0) ≤ x16 then
      some (x16, s17)
    else
      jlet (((7 * x1) - 7) + x16) fun x19 =>
      if jin x19 49 then
      if jin (s17 9 0) 2 then
      if jin x19 49 then
      if ¬ (s17 10 0) = 0 then
      if jin x19 49 then
      jlet (va_up s17 34 (upd (s17 34) x19.toNatClampNeg (jrem ((s17 19 x19.toNatClampNeg) + ((s17 8 (s17 9 0).toNatClampNeg) * (s17 20 x19.toNatClampNeg))) (s17 10 0)))) fun s24 =>
      if jin x19 49 then
      Option.bind (f_Mod_element (s24 34 x19.toNatClampNeg) s24) fun x28 =>
      Option.bind (f_Mod_showTwo x28 s24) fun s30 =>
      jlet (x16 + 1) fun x32 =>
      L_Mod_deal_57 x1 n x32 s30
      else none
      else none
      else none
      else none
      else none
      else none

def L_Mod_deal_2 : Nat → Int32 → jS → Option (Int32 × jS)
  | 0, _, _ => none
  | n + 1, x1, s2 =>
    if (s2 11 0) < x1 then
      some (x1, s2)
    else
      Option.bind (f_Mod_works x1 1 s2) fun x4 =>
      Option.bind (α := jS) (
        if x4 = 0 then
          some s2
        else
          Option.bind (f_Mod_is x1 0 s2) fun x7 =>
          if x7 = 0 then
            jlet (va_up s2 23 (fun _ => (s2 23 0) ||| (1 <<< ((x1 - 1) &&& 31)))) fun s10 =>
            Option.bind (f_Mod_show 1 s10) fun s12 =>
            Option.bind (f_Mod_show x1 s12) fun s14 =>
            Option.bind (L_Mod_deal_57 x1 jF 0 s14) fun (x35, s36) =>
            Option.bind (L_Mod_deal_131 x1 jF 1 s36) fun (x63, s64) =>
            some s64
          else
            some s2) fun s66 =>
      jlet (x1 + 1) fun x69 =>
      L_Mod_deal_2 n x69 s66

def f_Mod_deal (s : jS) : Option (jS) :=
  Option.bind (L_Mod_deal_2 jF 1 s) fun (x71, s72) =>
  some s72

def f_Mod_in (p0 : Int32) (p1 : Int32) : Option (Int32) :=
  Option.bind (α := Int32) (
    if ¬ ((p0 >>> ((p1 - 1) &&& 31)) &&& 1) = 1 then
      some 0
    else
      some 1) fun x2 =>
  if jbo x2 then
  some x2
  else none

def L_Mod_fits_6 (p0 : Int32) (p1 : Int32) (s : jS) : Nat → Int32 → Int32 → Option (Int32 × Int32)
  | 0, _, _ => none
  | n + 1, x1, x2 =>
    if (s 12 0) ≤ x2 then
      some (x1, x2)
    else
      if jin (((7 * p0) - 7) + x2) 49 then
      Option.bind (f_Mod_power p1 x2 s) fun x5 =>
      if ¬ (s 10 0) = 0 then
      jlet (jrem (x1 + ((s 34 (((7 * p0) - 7) + x2).toNatClampNeg) * x5)) (s 10 0)) fun x8 =>
      jlet (x2 + 1) fun x9 =>
      L_Mod_fits_6 p0 p1 s n x8 x9
      else none
      else none

def f_Mod_fits (p0 : Int32) (p1 : Int32) (p2 : Int32) (p3 : Int32) (s : jS) : Option (Int32) :=
  Option.bind (L_Mod_fits_6 p0 p1 s jF 0 0) fun (x12, x13) =>
  if jin (s 9 0) 2 then
  if ¬ (s 10 0) = 0 then
  Option.bind (α := Int32) (
    if ¬ (jrem (p2 + ((s 8 (s 9 0).toNatClampNeg) * p3)) (s 10 0)) = x12 then
      some 0
    else
      some 1) fun x18 =>
  if jbo x18 then
  some x18
  else none
  else none
  else none

def L_Mod_complain_12 (x1 : Int32) : Nat → Int32 → jS → Option (Int32 × jS)
  | 0, _, _ => none
  | n + 1, x4, s5 =>
    if (s5 11 0) < x4 then
      some (x4, s5)
    else
      Option.bind (f_Mod_works x1 2 s5) fun x7 =>
      if x7 = 0 then
        some (x4, s5)
      else
        Option.bind (f_Mod_in (s5 23 0) x4) fun x10 =>
        Option.bind (α := jS) (
          if x10 = 0 then
            some s5
          else
            Option.bind (f_Mod_at x4 x1) fun x13 =>
            if jin x13 49 then
            Option.bind (f_Mod_at x4 x1) fun x16 =>
            if jin x16 49 then
            Option.bind (f_Mod_fits x4 x1 (s5 30 x13.toNatClampNeg) (s5 31 x16.toNatClampNeg) s5) fun x19 =>
            if x19 = 0 then
              if jin (x4 - 1) 7 then
              if jin (x4 - 1) 7 then
              jlet (va_up s5 28 (upd (s5 28) (x4 - 1).toNatClampNeg ((s5 28 (x4 - 1).toNatClampNeg) ||| (1 <<< ((x1 - 1) &&& 31))))) fun s23 =>
              Option.bind (f_Mod_show 2 s23) fun s26 =>
              Option.bind (f_Mod_show x1 s26) fun s28 =>
              Option.bind (f_Mod_show x4 s28) fun s30 =>
              some s30
              else none
              else none
            else
              if jin ((14 + x1) - 1) 49 then
              if (s5 21 ((14 + x1) - 1).toNatClampNeg) = x4 then
                if jin (x4 - 1) 7 then
                if jin (x4 - 1) 7 then
                jlet (va_up s5 28 (upd (s5 28) (x4 - 1).toNatClampNeg ((s5 28 (x4 - 1).toNatClampNeg) ||| (1 <<< ((x1 - 1) &&& 31))))) fun s35 =>
                Option.bind (f_Mod_show 2 s35) fun s38 =>
                Option.bind (f_Mod_show x1 s38) fun s40 =>
                Option.bind (f_Mod_show x4 s40) fun s42 =>
                some s42
                else none
                else none
              else
                some s5
              else none
            else none
            else none) fun s44 =>
        jlet (x4 + 1) fun x47 =>
        L_Mod_complain_12 x1 n x47 s44

def L_Mod_complain_2 : Nat → Int32 → jS → Option (Int32 × jS)
  | 0, _, _ => none
  | n + 1, x1, s2 =>
    if (s2 11 0) < x1 then
      some (x1, s2)
    else
      Option.bind (L_Mod_complain_12 x1 jF 1 s2) fun (x49, s50) =>
      jlet (x1 + 1) fun x52 =>
      L_Mod_complain_2 n x52 s50

def f_Mod_complain (s : jS) : Option (jS) :=
  Option.bind (L_Mod_complain_2 jF 1 s) fun (x54, s55) =>
  some s55

def f_Mod_showNumbers (p0 : Int32) (p1 : Int32) (p2 : Int32) (p3 : Int32) (p4 : Int32) (s : jS) : Option (jS) :=
  Option.bind (f_Mod_show p0 s) fun s1 =>
  Option.bind (f_Mod_show p1 s1) fun s3 =>
  Option.bind (f_Mod_show p2 s3) fun s5 =>
  Option.bind (f_Mod_showTwo p3 s5) fun s7 =>
  Option.bind (f_Mod_showTwo p4 s7) fun s9 =>
  some s9

def L_Mod_answer_12 (x1 : Int32) : Nat → Int32 → jS → Option (Int32 × jS)
  | 0, _, _ => none
  | n + 1, x4, s5 =>
    if (s5 11 0) < x4 then
      some (x4, s5)
    else
      Option.bind (f_Mod_works x1 3 s5) fun x7 =>
      if x7 = 0 then
        some (x4, s5)
      else
        Option.bind (f_Mod_is x1 3 s5) fun x10 =>
        if ¬ x10 = 0 then
          some (x4, s5)
        else
          if jin (x1 - 1) 7 then
          Option.bind (f_Mod_in (s5 28 (x1 - 1).toNatClampNeg) x4) fun x14 =>
          Option.bind (α := jS) (
            if ¬ x14 = 0 then
              if jin (x1 - 1) 7 then
              if jin (x1 - 1) 7 then
              jlet (va_up s5 29 (upd (s5 29) (x1 - 1).toNatClampNeg ((s5 29 (x1 - 1).toNatClampNeg) ||| (1 <<< ((x4 - 1) &&& 31))))) fun s18 =>
              Option.bind (f_Mod_at x1 x4) fun x21 =>
              Option.bind (f_Mod_f x1 x4 s18) fun x23 =>
              Option.bind (f_Mod_is x1 4 s18) fun x25 =>
              Option.bind (α := Int32) (
                if x25 = 0 then
                  some 0
                else
                  some 1) fun x28 =>
              if ¬ (s18 10 0) = 0 then
              if jin x21 49 then
              jlet (va_up s18 32 (upd (s18 32) x21.toNatClampNeg (jrem (x23 + x28) (s18 10 0)))) fun s32 =>
              Option.bind (f_Mod_at x1 x4) fun x35 =>
              Option.bind (f_Mod_blind x1 x4 s32) fun x37 =>
              if jin x35 49 then
              jlet (va_up s32 33 (upd (s32 33) x35.toNatClampNeg x37)) fun s39 =>
              Option.bind (f_Mod_at x1 x4) fun x42 =>
              if jin x42 49 then
              Option.bind (f_Mod_at x1 x4) fun x45 =>
              if jin x45 49 then
              Option.bind (f_Mod_showNumbers 3 x1 x4 (s39 32 x42.toNatClampNeg) (s39 33 x45.toNatClampNeg) s39) fun s48 =>
              some s48
              else none
              else none
              else none
              else none
              else none
              else none
              else none
            else
              some s5) fun s50 =>
          jlet (x4 + 1) fun x53 =>
          L_Mod_answer_12 x1 n x53 s50
          else none

def L_Mod_answer_2 : Nat → Int32 → jS → Option (Int32 × jS)
  | 0, _, _ => none
  | n + 1, x1, s2 =>
    if (s2 11 0) < x1 then
      some (x1, s2)
    else
      Option.bind (L_Mod_answer_12 x1 jF 1 s2) fun (x55, s56) =>
      jlet (x1 + 1) fun x58 =>
      L_Mod_answer_2 n x58 s56

def f_Mod_answer (s : jS) : Option (jS) :=
  Option.bind (L_Mod_answer_2 jF 1 s) fun (x60, s61) =>
  some s61

def L_Mod_bits_4 (p0 : Int32) : Nat → Int32 → Int32 → Option (Int32 × Int32)
  | 0, _, _ => none
  | n + 1, x1, x2 =>
    if 8 ≤ x2 then
      some (x1, x2)
    else
      Option.bind (f_Mod_in p0 x2) fun x4 =>
      Option.bind (α := Int32) (
        if x4 = 0 then
          some 0
        else
          some 1) fun x7 =>
      jlet (x1 + x7) fun x10 =>
      jlet (x2 + 1) fun x11 =>
      L_Mod_bits_4 p0 n x10 x11

def f_Mod_bits (p0 : Int32) : Option (Int32) :=
  Option.bind (L_Mod_bits_4 p0 jF 0 1) fun (x14, x15) =>
  some x14

def L_Mod_judge_241 (x75 : Int32) : Nat → Int32 → jS → Option (Int32 × jS)
  | 0, _, _ => none
  | n + 1, x84, s85 =>
    if (s85 11 0) < x84 then
      some (x84, s85)
    else
      Option.bind (f_Mod_in (s85 25 0) x84) fun x87 =>
      Option.bind (α := jS) (
        if ¬ x87 = 0 then
          if jin (x75 - 1) 7 then
          Option.bind (f_Mod_at x84 x75) fun x91 =>
          if jin x91 49 then
          if ¬ (s85 10 0) = 0 then
          if jin (x75 - 1) 7 then
          jlet (va_up s85 36 (upd (s85 36) (x75 - 1).toNatClampNeg (jrem ((s85 36 (x75 - 1).toNatClampNeg) + (s85 30 x91.toNatClampNeg)) (s85 10 0)))) fun s95 =>
          if jin (x75 - 1) 7 then
          Option.bind (f_Mod_at x84 x75) fun x99 =>
          if jin x99 49 then
          if ¬ (s95 10 0) = 0 then
          if jin (x75 - 1) 7 then
          jlet (va_up s95 37 (upd (s95 37) (x75 - 1).toNatClampNeg (jrem ((s95 37 (x75 - 1).toNatClampNeg) + (s95 31 x99.toNatClampNeg)) (s95 10 0)))) fun s103 =>
          some s103
          else none
          else none
          else none
          else none
          else none
          else none
          else none
          else none
        else
          some s85) fun s106 =>
      jlet (x84 + 1) fun x109 =>
      L_Mod_judge_241 x75 n x109 s106

def L_Mod_judge_213 : Nat → Int32 → jS → Option (Int32 × jS)
  | 0, _, _ => none
  | n + 1, x75, s76 =>
    if (s76 11 0) < x75 then
      some (x75, s76)
    else
      if jin (x75 - 1) 7 then
      jlet (va_up s76 36 (upd (s76 36) (x75 - 1).toNatClampNeg 0)) fun s78 =>
      if jin (x75 - 1) 7 then
      jlet (va_up s78 37 (upd (s78 37) (x75 - 1).toNatClampNeg 0)) fun s81 =>
      Option.bind (L_Mod_judge_241 x75 jF 1 s81) fun (x111, s112) =>
      jlet (x75 + 1) fun x114 =>
      L_Mod_judge_213 n x114 s112
      else none
      else none

def L_Mod_judge_66 (x1 : Int32) : Nat → Int32 → Int32 → jS → Option (Int32 × Int32 × jS)
  | 0, _, _, _ => none
  | n + 1, x17, x18, s19 =>
    if (s19 11 0) < x18 then
      some (x17, x18, s19)
    else
      if jin (x1 - 1) 7 then
      Option.bind (f_Mod_in (s19 29 (x1 - 1).toNatClampNeg) x18) fun x22 =>
      Option.bind (α := Int32 × jS) (
        if ¬ x22 = 0 then
          Option.bind (α := Int32) (
            if x17 = 0 then
              some 0
            else
              Option.bind (f_Mod_at x1 x18) fun x26 =>
              if jin x26 49 then
              Option.bind (f_Mod_at x1 x18) fun x29 =>
              if jin x29 49 then
              Option.bind (f_Mod_fits x1 x18 (s19 32 x26.toNatClampNeg) (s19 33 x29.toNatClampNeg) s19) fun x32 =>
              if x32 = 0 then
                some 0
              else
                some 1
              else none
              else none) fun x35 =>
          Option.bind (f_Mod_at x1 x18) fun x38 =>
          Option.bind (f_Mod_at x1 x18) fun x40 =>
          if jin x40 49 then
          if jin x38 49 then
          jlet (va_up s19 30 (upd (s19 30) x38.toNatClampNeg (s19 32 x40.toNatClampNeg))) fun s43 =>
          Option.bind (f_Mod_at x1 x18) fun x46 =>
          Option.bind (f_Mod_at x1 x18) fun x48 =>
          if jin x48 49 then
          if jin x46 49 then
          jlet (va_up s43 31 (upd (s43 31) x46.toNatClampNeg (s43 33 x48.toNatClampNeg))) fun s51 =>
          some (x35, s51)
          else none
          else none
          else none
          else none
        else
          some (x17, s19)) fun (x54, s55) =>
      jlet (x18 + 1) fun x58 =>
      L_Mod_judge_66 x1 n x54 x58 s55
      else none

def L_Mod_judge_2 : Nat → Int32 → jS → Option (Int32 × jS)
  | 0, _, _ => none
  | n + 1, x1, s2 =>
    if (s2 11 0) < x1 then
      some (x1, s2)
    else
      Option.bind (f_Mod_in (s2 23 0) x1) fun x4 =>
      Option.bind (α := Int32) (
        if x4 = 0 then
          some 0
        else
          if jin (x1 - 1) 7 then
          Option.bind (f_Mod_bits (s2 28 (x1 - 1).toNatClampNeg)) fun x8 =>
          if (s2 12 0) ≤ x8 then
            some 0
          else
            if jin (x1 - 1) 7 then
            if jin (x1 - 1) 7 then
            if ¬ (s2 29 (x1 - 1).toNatClampNeg) = (s2 28 (x1 - 1).toNatClampNeg) then
              some 0
            else
              some 1
            else none
            else none
          else none) fun x14 =>
      Option.bind (L_Mod_judge_66 x1 jF x14 1 s2) fun (x60, x61, s62) =>
      Option.bind (α := Int32) (
        if x60 = 0 then
          some 0
        else
          some (1 <<< ((x1 - 1) &&& 31))) fun x65 =>
      jlet (va_up s62 25 (fun _ => (s62 25 0) ||| x65)) fun s68 =>
      jlet (x1 + 1) fun x70 =>
      L_Mod_judge_2 n x70 s68

def f_Mod_judge (s : jS) : Option (jS) :=
  Option.bind (L_Mod_judge_2 jF 1 s) fun (x72, s73) =>
  Option.bind (L_Mod_judge_213 jF 1 s73) fun (x116, s117) =>
  Option.bind (α := Int32) (
    if ¬ (s117 25 0) = 0 then
      some 0
    else
      some 1) fun x120 =>
  if jbo x120 then
  jlet (va_up s117 17 (fun _ => x120)) fun s123 =>
  some s123
  else none

def L_Mod_extract_59 (x1 : Int32) : Nat → Int32 → jS → Option (Int32 × jS)
  | 0, _, _ => none
  | n + 1, x16, s17 =>
    if (s17 12 0) ≤ x16 then
      some (x16, s17)
    else
      jlet (((7 * x1) - 7) + x16) fun x19 =>
      if jin x19 49 then
      Option.bind (α := Int32) (
        if ¬ x16 = 0 then
          some 0
        else
          Option.bind (f_Mod_is x1 5 s17) fun x22 =>
          if x22 = 0 then
            some 0
          else
            some 1) fun x25 =>
      if ¬ (s17 10 0) = 0 then
      if jin x19 49 then
      jlet (va_up s17 35 (upd (s17 35) x19.toNatClampNeg (jrem ((s17 19 x19.toNatClampNeg) + x25) (s17 10 0)))) fun s29 =>
      if jin x19 49 then
      Option.bind (f_Mod_element (s29 35 x19.toNatClampNeg) s29) fun x33 =>
      Option.bind (f_Mod_showTwo x33 s29) fun s35 =>
      jlet (x16 + 1) fun x37 =>
      L_Mod_extract_59 x1 n x37 s35
      else none
      else none
      else none
      else none

def L_Mod_extract_2 : Nat → Int32 → jS → Option (Int32 × jS)
  | 0, _, _ => none
  | n + 1, x1, s2 =>
    if (s2 11 0) < x1 then
      some (x1, s2)
    else
      Option.bind (f_Mod_works x1 5 s2) fun x4 =>
      Option.bind (α := jS) (
        if x4 = 0 then
          some s2
        else
          Option.bind (f_Mod_in (s2 25 0) x1) fun x7 =>
          if ¬ x7 = 0 then
            jlet (va_up s2 24 (fun _ => (s2 24 0) ||| (1 <<< ((x1 - 1) &&& 31)))) fun s10 =>
            Option.bind (f_Mod_show 5 s10) fun s12 =>
            Option.bind (f_Mod_show x1 s12) fun s14 =>
            Option.bind (L_Mod_extract_59 x1 jF 0 s14) fun (x40, s41) =>
            some s41
          else
            some s2) fun s43 =>
      jlet (x1 + 1) fun x46 =>
      L_Mod_extract_2 n x46 s43

def f_Mod_extract (s : jS) : Option (jS) :=
  Option.bind (L_Mod_extract_2 jF 1 s) fun (x48, s49) =>
  some s49

def L_Mod_accuse_80 (x1 : Int32) (x4 : Int32) (s5 : jS) : Nat → Int32 → Int32 → Option (Int32 × Int32)
  | 0, _, _ => none
  | n + 1, x21, x22 =>
    if (s5 12 0) ≤ x22 then
      some (x21, x22)
    else
      if jin (((7 * x4) - 7) + x22) 49 then
      Option.bind (f_Mod_power x1 x22 s5) fun x25 =>
      if ¬ (s5 10 0) = 0 then
      jlet (jrem (x21 + ((s5 35 (((7 * x4) - 7) + x22).toNatClampNeg) * x25)) (s5 10 0)) fun x28 =>
      jlet (x22 + 1) fun x29 =>
      L_Mod_accuse_80 x1 x4 s5 n x28 x29
      else none
      else none

def L_Mod_accuse_12 (x1 : Int32) : Nat → Int32 → jS → Option (Int32 × jS)
  | 0, _, _ => none
  | n + 1, x4, s5 =>
    if (s5 11 0) < x4 then
      some (x4, s5)
    else
      Option.bind (f_Mod_works x1 6 s5) fun x7 =>
      if x7 = 0 then
        some (x4, s5)
      else
        Option.bind (f_Mod_in ((s5 25 0) &&& (s5 24 0)) x4) fun x10 =>
        Option.bind (α := jS) (
          if ¬ x10 = 0 then
            Option.bind (f_Mod_at x4 x1) fun x13 =>
            if jin x13 49 then
            jlet (s5 30 x13.toNatClampNeg) fun x16 =>
            Option.bind (f_Mod_at x4 x1) fun x17 =>
            if jin x17 49 then
            jlet (s5 31 x17.toNatClampNeg) fun x20 =>
            Option.bind (L_Mod_accuse_80 x1 x4 s5 jF 0 0) fun (x32, x33) =>
            if x16 = x32 then
              some s5
            else
              Option.bind (f_Mod_fits x4 x1 x16 x20 s5) fun x36 =>
              if ¬ x36 = 0 then
                jlet (va_up s5 26 (fun _ => (s5 26 0) ||| (1 <<< ((x4 - 1) &&& 31)))) fun s39 =>
                Option.bind (f_Mod_showNumbers 6 x1 x4 x16 x20 s39) fun s41 =>
                some s41
              else
                some s5
            else none
            else none
          else
            some s5) fun s45 =>
        jlet (x4 + 1) fun x48 =>
        L_Mod_accuse_12 x1 n x48 s45

def L_Mod_accuse_2 : Nat → Int32 → jS → Option (Int32 × jS)
  | 0, _, _ => none
  | n + 1, x1, s2 =>
    if (s2 11 0) < x1 then
      some (x1, s2)
    else
      Option.bind (L_Mod_accuse_12 x1 jF 1 s2) fun (x50, s51) =>
      jlet (x1 + 1) fun x53 =>
      L_Mod_accuse_2 n x53 s51

def f_Mod_accuse (s : jS) : Option (jS) :=
  Option.bind (L_Mod_accuse_2 jF 1 s) fun (x55, s56) =>
  some s56

def L_Mod_weight_49 (s : jS) (x2 : Int32) (x9 : Int32) : Nat → Int32 → Option (Int32)
  | 0, _ => none
  | n + 1, x10 =>
    if ¬ (s 10 0) = 0 then
    if ¬ (s 10 0) = 0 then
    if (jrem (x10 * x9) (s 10 0)) = (jrem x2 (s 10 0)) then
      some x10
    else
      jlet (x10 + 1) fun x14 =>
      L_Mod_weight_49 s x2 x9 n x14
    else none
    else none

def L_Mod_weight_5 (p0 : Int32) (p1 : Int32) (s : jS) : Nat → Int32 → Int32 → Option (Int32 × Int32)
  | 0, _, _ => none
  | n + 1, x1, x2 =>
    if 8 ≤ x2 then
      some (x1, x2)
    else
      Option.bind (f_Mod_in p0 x2) fun x4 =>
      Option.bind (α := Int32) (
        if x4 = 0 then
          some x1
        else
          if ¬ x2 = p1 then
            if ¬ (s 10 0) = 0 then
            jlet (jrem ((x2 - p1) + (s 10 0)) (s 10 0)) fun x9 =>
            Option.bind (L_Mod_weight_49 s x2 x9 jF 0) fun x16 =>
            if ¬ (s 10 0) = 0 then
            jlet (jrem (x1 * x16) (s 10 0)) fun x19 =>
            some x19
            else none
            else none
          else
            some x1) fun x22 =>
      jlet (x2 + 1) fun x25 =>
      L_Mod_weight_5 p0 p1 s n x22 x25

def f_Mod_weight (p0 : Int32) (p1 : Int32) (s : jS) : Option (Int32) :=
  Option.bind (L_Mod_weight_5 p0 p1 s jF 1 1) fun (x27, x28) =>
  some x27

def L_Mod_atZero_4 (p0 : Int32) (s : jS) : Nat → Int32 → Int32 → Option (Int32 × Int32)
  | 0, _, _ => none
  | n + 1, x1, x2 =>
    if 8 ≤ x2 then
      some (x1, x2)
    else
      Option.bind (f_Mod_in p0 x2) fun x4 =>
      Option.bind (α := Int32) (
        if x4 = 0 then
          some x1
        else
          Option.bind (f_Mod_weight p0 x2 s) fun x7 =>
          if jin (x2 - 1) 7 then
          if ¬ (s 10 0) = 0 then
          some (jrem (x1 + (x7 * (s 38 (x2 - 1).toNatClampNeg))) (s 10 0))
          else none
          else none) fun x11 =>
      jlet (x2 + 1) fun x14 =>
      L_Mod_atZero_4 p0 s n x11 x14

def f_Mod_atZero (p0 : Int32) (s : jS) : Option (Int32) :=
  Option.bind (L_Mod_atZero_4 p0 s jF 0 1) fun (x16, x17) =>
  some x16

def L_Mod_open_76_2 (x2 : Int32) : Nat → Int32 → Int32 → jS → Option (Int32 × Int32 × jS)
  | 0, _, _, _ => none
  | n + 1, x85, x86, s87 =>
    if (s87 11 0) < x86 then
      some (x85, x86, s87)
    else
      Option.bind (f_Mod_works x86 7 s87) fun x89 =>
      Option.bind (α := Int32 × jS) (
        if ¬ x89 = 0 then
          Option.bind (f_Mod_at x2 x86) fun x92 =>
          if jin x92 49 then
          Option.bind (f_Mod_is x86 6 s87) fun x95 =>
          Option.bind (α := Int32) (
            if x95 = 0 then
              some 0
            else
              some 1) fun x98 =>
          if ¬ (s87 10 0) = 0 then
          jlet (jrem ((s87 30 x92.toNatClampNeg) + x98) (s87 10 0)) fun x102 =>
          Option.bind (f_Mod_at x2 x86) fun x103 =>
          if jin x103 49 then
          Option.bind (f_Mod_showNumbers 7 x86 x2 x102 (s87 31 x103.toNatClampNeg) s87) fun s106 =>
          Option.bind (f_Mod_at x2 x86) fun x108 =>
          if jin x108 49 then
          Option.bind (f_Mod_fits x2 x86 x102 (s106 31 x108.toNatClampNeg) s106) fun x111 =>
          if x111 = 0 then
            some (x85, s106)
          else
            Option.bind (f_Mod_bits x85) fun x114 =>
            if (s106 12 0) ≤ x114 then
              some (x85, s106)
            else
              jlet (x85 ||| (1 <<< ((x86 - 1) &&& 31))) fun x117 =>
              if jin (x86 - 1) 7 then
              jlet (va_up s106 38 (upd (s106 38) (x86 - 1).toNatClampNeg x102)) fun s118 =>
              some (x117, s118)
              else none
          else none
          else none
          else none
          else none
        else
          some (x85, s87)) fun (x123, s124) =>
      jlet (x86 + 1) fun x127 =>
      L_Mod_open_76_2 x2 n x123 x127 s124

def L_Mod_open_76 (x2 : Int32) : Nat → Int32 → Int32 → jS → Option (Int32 × Int32 × jS)
  | 0, _, _, _ => none
  | n + 1, x11, x12, s13 =>
    if (s13 11 0) < x12 then
      some (x11, x12, s13)
    else
      Option.bind (f_Mod_works x12 7 s13) fun x15 =>
      Option.bind (α := Int32 × jS) (
        if ¬ x15 = 0 then
          Option.bind (f_Mod_at x2 x12) fun x18 =>
          if jin x18 49 then
          Option.bind (f_Mod_is x12 6 s13) fun x21 =>
          Option.bind (α := Int32) (
            if x21 = 0 then
              some 0
            else
              some 1) fun x24 =>
          if ¬ (s13 10 0) = 0 then
          jlet (jrem ((s13 30 x18.toNatClampNeg) + x24) (s13 10 0)) fun x28 =>
          Option.bind (f_Mod_at x2 x12) fun x29 =>
          if jin x29 49 then
          Option.bind (f_Mod_showNumbers 7 x12 x2 x28 (s13 31 x29.toNatClampNeg) s13) fun s32 =>
          Option.bind (f_Mod_at x2 x12) fun x34 =>
          if jin x34 49 then
          Option.bind (f_Mod_fits x2 x12 x28 (s32 31 x34.toNatClampNeg) s32) fun x37 =>
          if x37 = 0 then
            some (x11, s32)
          else
            Option.bind (f_Mod_bits x11) fun x40 =>
            if (s32 12 0) ≤ x40 then
              some (x11, s32)
            else
              jlet (x11 ||| (1 <<< ((x12 - 1) &&& 31))) fun x43 =>
              if jin (x12 - 1) 7 then
              jlet (va_up s32 38 (upd (s32 38) (x12 - 1).toNatClampNeg x28)) fun s44 =>
              some (x43, s44)
              else none
          else none
          else none
          else none
          else none
        else
          some (x11, s13)) fun (x49, s50) =>
      jlet (x12 + 1) fun x53 =>
      L_Mod_open_76 x2 n x49 x53 s50

def L_Mod_open_4 : Nat → Int32 → Int32 → jS → Option (Int32 × Int32 × jS)
  | 0, _, _, _ => none
  | n + 1, x1, x2, s3 =>
    if (s3 11 0) < x2 then
      some (x1, x2, s3)
    else
      Option.bind (f_Mod_in (s3 25 0) x2) fun x5 =>
      Option.bind (α := Int32 × jS) (
        if ¬ x5 = 0 then
          Option.bind (f_Mod_in (s3 26 0) x2) fun x8 =>
          if ¬ x8 = 0 then
            Option.bind (L_Mod_open_76 x2 jF 0 1 s3) fun (x55, x56, s57) =>
            Option.bind (α := Int32) (
              if ¬ (s57 17 0) = 0 then
                some 1
              else
                Option.bind (f_Mod_bits x55) fun x60 =>
                if (s57 12 0) ≤ x60 then
                  some 0
                else
                  some 1) fun x63 =>
            if jbo x63 then
            jlet (va_up s57 17 (fun _ => x63)) fun s66 =>
            Option.bind (f_Mod_bits x55) fun x69 =>
            Option.bind (α := Int32) (
              if (s66 12 0) ≤ x69 then
                some (1 <<< ((x2 - 1) &&& 31))
              else
                some 0) fun x72 =>
            jlet (va_up s66 27 (fun _ => (s66 27 0) ||| x72)) fun s75 =>
            Option.bind (f_Mod_atZero x55 s75) fun x77 =>
            if ¬ (s75 10 0) = 0 then
            jlet (jrem (x1 + x77) (s75 10 0)) fun x80 =>
            some (x80, s75)
            else none
            else none
          else
            Option.bind (f_Mod_in (s3 24 0) x2) fun x82 =>
            if x82 = 0 then
              Option.bind (L_Mod_open_76_2 x2 jF 0 1 s3) fun (x129, x130, s131) =>
              Option.bind (α := Int32) (
                if ¬ (s131 17 0) = 0 then
                  some 1
                else
                  Option.bind (f_Mod_bits x129) fun x134 =>
                  if (s131 12 0) ≤ x134 then
                    some 0
                  else
                    some 1) fun x137 =>
              if jbo x137 then
              jlet (va_up s131 17 (fun _ => x137)) fun s140 =>
              Option.bind (f_Mod_bits x129) fun x143 =>
              Option.bind (α := Int32) (
                if (s140 12 0) ≤ x143 then
                  some (1 <<< ((x2 - 1) &&& 31))
                else
                  some 0) fun x146 =>
              jlet (va_up s140 27 (fun _ => (s140 27 0) ||| x146)) fun s149 =>
              Option.bind (f_Mod_atZero x129 s149) fun x151 =>
              if ¬ (s149 10 0) = 0 then
              jlet (jrem (x1 + x151) (s149 10 0)) fun x154 =>
              some (x154, s149)
              else none
              else none
            else
              if jin ((7 * x2) - 7) 49 then
              if ¬ (s3 10 0) = 0 then
              jlet (jrem (x1 + (s3 35 ((7 * x2) - 7).toNatClampNeg)) (s3 10 0)) fun x158 =>
              some (x158, s3)
              else none
              else none
        else
          some (x1, s3)) fun (x160, s161) =>
      jlet (x2 + 1) fun x164 =>
      L_Mod_open_4 n x160 x164 s161

def f_Mod_open (s : jS) : Option (jS) :=
  Option.bind (L_Mod_open_4 jF 0 1 s) fun (x166, x167, s168) =>
  jlet (va_up s168 39 (fun _ => x166)) fun s170 =>
  Option.bind (α := Int32) (
    if ¬ (s170 17 0) = 0 then
      some 0
    else
      some 1) fun x173 =>
  if jbo x173 then
  jlet (va_up s170 16 (fun _ => x173)) fun s176 =>
  some s176
  else none

def f_Mod_next (s : jS) : Option (Int32 × jS) :=
  Option.bind (α := Int32) (
    if (s 15 0) = 0 then
      some 1
    else
      if ¬ (s 16 0) = 0 then
        some 1
      else
        if (s 17 0) = 0 then
          some 0
        else
          some 1) fun x4 =>
  jlet (va_up s 0 (fun _ => x4)) fun s7 =>
  if (s7 0 0) ≤ 0 then
    jlet (va_up s7 18 (fun _ => (s7 18 0) + 1)) fun s10 =>
    Option.bind (α := jS) (
      if ¬ (s10 18 0) = 1 then
        if ¬ (s10 18 0) = 2 then
          if ¬ (s10 18 0) = 3 then
            if ¬ (s10 18 0) = 4 then
              if ¬ (s10 18 0) = 5 then
                if ¬ (s10 18 0) = 6 then
                  Option.bind (f_Mod_open s10) fun s18 =>
                  some s18
                else
                  Option.bind (f_Mod_accuse s10) fun s20 =>
                  some s20
              else
                Option.bind (f_Mod_extract s10) fun s22 =>
                some s22
            else
              Option.bind (f_Mod_judge s10) fun s24 =>
              some s24
          else
            Option.bind (f_Mod_answer s10) fun s26 =>
            some s26
        else
          Option.bind (f_Mod_complain s10) fun s28 =>
          some s28
      else
        Option.bind (f_Mod_deal s10) fun s30 =>
        some s30) fun s32 =>
    some (s32 18 0, s32)
  else
    some (0, s7)

def f_Mod_state (s : jS) : Option (Int32 × jS) :=
  jlet (va_up s 0 (fun _ => 0)) fun s1 =>
  Option.bind (α := Int32) (
    if ¬ (s1 15 0) = 0 then
      if (s1 16 0) = 0 then
        if (s1 17 0) = 0 then
          some 1
        else
          some 3
      else
        some 2
    else
      some 0) fun x6 =>
  some (x6, s1)

def f_Mod_mask (s : jS) : Option (Int32) :=
  some ((1 <<< ((s 11 0) &&& 31)) - 1)

def L_Mod_parties_111 (s1 : jS) : Nat → Int32 → Int32 → Option (Int32 × Int32)
  | 0, _, _ => none
  | n + 1, x9, x10 =>
    if (s1 11 0) < x10 then
      some (x9, x10)
    else
      Option.bind (α := Int32) (
        if ¬ (s1 16 0) = 0 then
          some 8
        else
          if (s1 17 0) = 0 then
            some ((s1 18 0) + 1)
          else
            some 8) fun x14 =>
      Option.bind (f_Mod_works x10 x14 s1) fun x17 =>
      Option.bind (α := Int32) (
        if x17 = 0 then
          some 0
        else
          some (1 <<< ((x10 - 1) &&& 31))) fun x20 =>
      jlet (x9 ||| x20) fun x23 =>
      jlet (x10 + 1) fun x24 =>
      L_Mod_parties_111 s1 n x23 x24

def f_Mod_parties (p0 : Int32) (s : jS) : Option (Int32 × jS) :=
  jlet (va_up s 0 (fun _ => 0)) fun s1 =>
  if p0 < 0 then
    some ((-1), s1)
  else
    if p0 ≤ 3 then
      if ¬ (s1 15 0) = 0 then
        if ¬ p0 = 0 then
          if ¬ p0 = 1 then
            if ¬ p0 = 2 then
              Option.bind (L_Mod_parties_111 s1 jF 0 1) fun (x27, x28) =>
              some (x27, s1)
            else
              Option.bind (α := Int32) (
                if (s1 18 0) < 7 then
                  some 0
                else
                  Option.bind (f_Mod_mask s1) fun x31 =>
                  some ((s1 27 0) &&& x31)) fun x33 =>
              some (x33, s1)
          else
            Option.bind (α := Int32) (
              if (s1 18 0) < 6 then
                some 0
              else
                Option.bind (f_Mod_mask s1) fun x37 =>
                some ((s1 26 0) &&& x37)) fun x39 =>
            some (x39, s1)
        else
          Option.bind (α := Int32) (
            if (s1 18 0) < 4 then
              some 0
            else
              Option.bind (f_Mod_mask s1) fun x43 =>
              some ((s1 25 0) &&& x43)) fun x45 =>
          some (x45, s1)
      else
        some (0, s1)
    else
      some ((-1), s1)

def f_Mod_complaints (p0 : Int32) (s : jS) : Option (Int32 × jS) :=
  Option.bind (f_Mod_isParty p0 s) fun x1 =>
  Option.bind (α := Int32) (
    if x1 = 0 then
      some 1
    else
      some 0) fun x4 =>
  jlet (va_up s 0 (fun _ => x4)) fun s7 =>
  Option.bind (α := Int32) (
    if (s7 0 0) ≤ 0 then
      if jin (p0 - 1) 7 then
      Option.bind (f_Mod_mask s7) fun x11 =>
      some ((s7 28 (p0 - 1).toNatClampNeg) &&& x11)
      else none
    else
      some 0) fun x13 =>
  some (x13, s7)

def f_Mod_received (p0 : Int32) (p1 : Int32) (p2 : Int32) (s : jS) : Option (Int32 × jS) :=
  Option.bind (f_Mod_isParty p0 s) fun x1 =>
  Option.bind (α := Int32) (
    if x1 = 0 then
      some 1
    else
      Option.bind (f_Mod_isParty p1 s) fun x4 =>
      if x4 = 0 then
        some 1
      else
        if p2 < 0 then
          some 1
        else
          if p2 ≤ 1 then
            some 0
          else
            some 1) fun x9 =>
  jlet (va_up s 0 (fun _ => x9)) fun s12 =>
  if (s12 0 0) ≤ 0 then
    Option.bind (f_Mod_in (s12 23 0) p0) fun x15 =>
    if x15 = 0 then
      some ((-1), s12)
    else
      if p1 ≤ (s12 13 0) then
        Option.bind (α := Int32) (
          if ¬ p2 = 0 then
            Option.bind (f_Mod_at p0 p1) fun x20 =>
            if jin x20 49 then
            some (s12 31 x20.toNatClampNeg)
            else none
          else
            Option.bind (f_Mod_at p0 p1) fun x23 =>
            if jin x23 49 then
            some (s12 30 x23.toNatClampNeg)
            else none) fun x26 =>
        some (x26, s12)
      else
        some ((-1), s12)
  else
    some (0, s12)

def f_Mod_commitment (p0 : Int32) (p1 : Int32) (p2 : Int32) (s : jS) : Option (Int32 × jS) :=
  Option.bind (f_Mod_isParty p0 s) fun x1 =>
  Option.bind (α := Int32) (
    if x1 = 0 then
      some 1
    else
      if p1 < 0 then
        some 1
      else
        if (s 12 0) ≤ p1 then
          some 1
        else
          if p2 < 0 then
            some 1
          else
            if p2 ≤ 1 then
              some 0
            else
              some 1) fun x8 =>
  jlet (va_up s 0 (fun _ => x8)) fun s11 =>
  if (s11 0 0) ≤ 0 then
    Option.bind (α := Int32) (
      if ¬ p2 = 0 then
        some (s11 24 0)
      else
        some (s11 23 0)) fun x15 =>
    Option.bind (f_Mod_in x15 p0) fun x18 =>
    if x18 = 0 then
      some ((-1), s11)
    else
      if p1 < (s11 14 0) then
        Option.bind (α := Int32) (
          if ¬ p2 = 0 then
            if jin (((7 * p0) - 7) + p1) 49 then
            some (s11 35 (((7 * p0) - 7) + p1).toNatClampNeg)
            else none
          else
            if jin (((7 * p0) - 7) + p1) 49 then
            some (s11 34 (((7 * p0) - 7) + p1).toNatClampNeg)
            else none) fun x25 =>
        Option.bind (f_Mod_element x25 s11) fun x28 =>
        some (x28, s11)
      else
        some ((-1), s11)
  else
    some (0, s11)

def f_Mod_share (p0 : Int32) (p1 : Int32) (s : jS) : Option (Int32 × jS) :=
  Option.bind (f_Mod_isParty p0 s) fun x1 =>
  Option.bind (α := Int32) (
    if x1 = 0 then
      some 1
    else
      if p1 < 0 then
        some 1
      else
        if p1 ≤ 1 then
          some 0
        else
          some 1) fun x6 =>
  jlet (va_up s 0 (fun _ => x6)) fun s9 =>
  if (s9 0 0) ≤ 0 then
    if (s9 18 0) < 4 then
      some ((-1), s9)
    else
      if (s9 17 0) = 0 then
        Option.bind (α := Int32) (
          if ¬ p1 = 0 then
            if jin (p0 - 1) 7 then
            some (s9 37 (p0 - 1).toNatClampNeg)
            else none
          else
            if jin (p0 - 1) 7 then
            some (s9 36 (p0 - 1).toNatClampNeg)
            else none) fun x17 =>
        some (x17, s9)
      else
        if ¬ (s9 18 0) = 4 then
          Option.bind (α := Int32) (
            if ¬ p1 = 0 then
              if jin (p0 - 1) 7 then
              some (s9 37 (p0 - 1).toNatClampNeg)
              else none
            else
              if jin (p0 - 1) 7 then
              some (s9 36 (p0 - 1).toNatClampNeg)
              else none) fun x24 =>
          some (x24, s9)
        else
          some ((-1), s9)
  else
    some (0, s9)

def f_Mod_board (s : jS) : Option (Int32 × jS) :=
  jlet (va_up s 0 (fun _ => 0)) fun s1 =>
  some (s1 40 0, s1)

def f_Mod_told (p0 : Int32) (s : jS) : Option (Int32 × jS) :=
  Option.bind (α := Int32) (
    if p0 < 0 then
      some 1
    else
      if p0 < (s 40 0) then
        some 0
      else
        some 1) fun x3 =>
  jlet (va_up s 0 (fun _ => x3)) fun s6 =>
  Option.bind (α := Int32) (
    if (s6 0 0) ≤ 0 then
      if jin p0 1100 then
      some (s6 41 p0.toNatClampNeg)
      else none
    else
      some 0) fun x10 =>
  some (x10, s6)

def f_Mod_key (s : jS) : Option (Int32 × jS) :=
  jlet (va_up s 0 (fun _ => 0)) fun s1 =>
  Option.bind (α := Int32) (
    if (s1 15 0) = 0 then
      some (-1)
    else
      if (s1 16 0) = 0 then
        some (-1)
      else
        Option.bind (f_Mod_element (s1 39 0) s1) fun x5 =>
        some x5) fun x7 =>
  some (x7, s1)

def f_Mod_padded (p0 : Int32) (p1 : Int32) (s : jS) : Option (Int32) :=
  if (s 40 0) ≤ p0 then
    if ¬ p0 = (s 40 0) then
      Option.bind (α := Int32) (
        if (p1 - 4) ≤ p0 then
          some ((jushr ((s 40 0) * 8) (8 * ((p1 - 1) - p0))) &&& 255)
        else
          some 0) fun x4 =>
      some x4
    else
      some 128
  else
    if jin p0 1100 then
    some (s 41 p0.toNatClampNeg)
    else none

def f_Mod_right (p0 : Int32) (p1 : Int32) : Option (Int32) :=
  some ((jushr p0 p1) ||| (p0 <<< ((32 - p1) &&& 31)))

def L_Mod_mix_154 : Nat → Int32 → jS → Option (Int32 × jS)
  | 0, _, _ => none
  | n + 1, x33, s34 =>
    if x33 ≤ 0 then
      some (x33, s34)
    else
      if jin (x33 - 1) 8 then
      if jin x33 8 then
      jlet (va_up s34 47 (upd (s34 47) x33.toNatClampNeg (s34 47 (x33 - 1).toNatClampNeg))) fun s37 =>
      jlet (x33 + (-1)) fun x40 =>
      L_Mod_mix_154 n x40 s37
      else none
      else none

def f_Mod_mix (p0 : Int32) (s : jS) : Option (jS) :=
  if jin 4 8 then
  jlet (s 47 (4 : Int32).toNatClampNeg) fun x2 =>
  if jin 0 8 then
  jlet (s 47 (0 : Int32).toNatClampNeg) fun x4 =>
  if jin 7 8 then
  Option.bind (f_Mod_right x2 6) fun x6 =>
  Option.bind (f_Mod_right x2 11) fun x8 =>
  Option.bind (f_Mod_right x2 25) fun x10 =>
  if jin 5 8 then
  if jin 6 8 then
  Option.bind (α := Int32) (
    if 32 ≤ p0 then
      if jin (p0 - 32) 32 then
      some (s 43 (p0 - 32).toNatClampNeg)
      else none
    else
      if jin p0 32 then
      some (s 42 p0.toNatClampNeg)
      else none) fun x17 =>
  if jin p0 64 then
  jlet (((((s 47 (7 : Int32).toNatClampNeg) + ((x6 ^^^ x8) ^^^ x10)) + ((x2 &&& (s 47 (5 : Int32).toNatClampNeg)) ^^^ ((x2 ^^^ (-1)) &&& (s 47 (6 : Int32).toNatClampNeg)))) + x17) + (s 46 p0.toNatClampNeg)) fun x21 =>
  Option.bind (f_Mod_right x4 2) fun x22 =>
  Option.bind (f_Mod_right x4 13) fun x24 =>
  Option.bind (f_Mod_right x4 22) fun x26 =>
  if jin 1 8 then
  if jin 2 8 then
  if jin 1 8 then
  if jin 2 8 then
  jlet (((x22 ^^^ x24) ^^^ x26) + (((x4 &&& (s 47 (1 : Int32).toNatClampNeg)) ^^^ (x4 &&& (s 47 (2 : Int32).toNatClampNeg))) ^^^ ((s 47 (1 : Int32).toNatClampNeg) &&& (s 47 (2 : Int32).toNatClampNeg)))) fun x32 =>
  Option.bind (L_Mod_mix_154 jF 7 s) fun (x42, s43) =>
  if jin 4 8 then
  if jin 4 8 then
  jlet (va_up s43 47 (upd (s43 47) (4 : Int32).toNatClampNeg ((s43 47 (4 : Int32).toNatClampNeg) + x21))) fun s46 =>
  if jin 0 8 then
  jlet (va_up s46 47 (upd (s46 47) (0 : Int32).toNatClampNeg (x21 + x32))) fun s49 =>
  some s49
  else none
  else none
  else none
  else none
  else none
  else none
  else none
  else none
  else none
  else none
  else none
  else none
  else none

def L_Mod_block_224 : Nat → Int32 → jS → Option (Int32 × jS)
  | 0, _, _ => none
  | n + 1, x71, s72 =>
    if 8 ≤ x71 then
      some (x71, s72)
    else
      if jin x71 8 then
      if jin x71 8 then
      if jin x71 8 then
      jlet (va_up s72 44 (upd (s72 44) x71.toNatClampNeg ((s72 44 x71.toNatClampNeg) + (s72 47 x71.toNatClampNeg)))) fun s76 =>
      jlet (x71 + 1) fun x79 =>
      L_Mod_block_224 n x79 s76
      else none
      else none
      else none

def L_Mod_block_205 : Nat → Int32 → jS → Option (Int32 × jS)
  | 0, _, _ => none
  | n + 1, x61, s62 =>
    if 64 ≤ x61 then
      some (x61, s62)
    else
      Option.bind (f_Mod_mix x61 s62) fun s64 =>
      jlet (x61 + 1) fun x66 =>
      L_Mod_block_205 n x66 s64

def L_Mod_block_179 : Nat → Int32 → jS → Option (Int32 × jS)
  | 0, _, _ => none
  | n + 1, x49, s50 =>
    if 8 ≤ x49 then
      some (x49, s50)
    else
      if jin x49 8 then
      if jin x49 8 then
      jlet (va_up s50 47 (upd (s50 47) x49.toNatClampNeg (s50 44 x49.toNatClampNeg))) fun s53 =>
      jlet (x49 + 1) fun x56 =>
      L_Mod_block_179 n x56 s53
      else none
      else none

def L_Mod_block_76 : Nat → Int32 → jS → Option (Int32 × jS)
  | 0, _, _ => none
  | n + 1, x22, s23 =>
    if 64 ≤ x22 then
      some (x22, s23)
    else
      if jin (x22 - 15) 64 then
      jlet (s23 46 (x22 - 15).toNatClampNeg) fun x26 =>
      if jin (x22 - 2) 64 then
      jlet (s23 46 (x22 - 2).toNatClampNeg) fun x28 =>
      if jin (x22 - 16) 64 then
      Option.bind (f_Mod_right x26 7) fun x30 =>
      Option.bind (f_Mod_right x26 18) fun x32 =>
      if jin (x22 - 7) 64 then
      Option.bind (f_Mod_right x28 17) fun x35 =>
      Option.bind (f_Mod_right x28 19) fun x37 =>
      if jin x22 64 then
      jlet (va_up s23 46 (upd (s23 46) x22.toNatClampNeg ((((s23 46 (x22 - 16).toNatClampNeg) + ((x30 ^^^ x32) ^^^ (jushr x26 3))) + (s23 46 (x22 - 7).toNatClampNeg)) + ((x35 ^^^ x37) ^^^ (jushr x28 10))))) fun s39 =>
      jlet (x22 + 1) fun x42 =>
      L_Mod_block_76 n x42 s39
      else none
      else none
      else none
      else none
      else none

def L_Mod_block_2 (p0 : Int32) (p1 : Int32) : Nat → Int32 → jS → Option (Int32 × jS)
  | 0, _, _ => none
  | n + 1, x1, s2 =>
    if 16 ≤ x1 then
      some (x1, s2)
    else
      jlet (p0 + (4 * x1)) fun x4 =>
      Option.bind (f_Mod_padded x4 p1 s2) fun x5 =>
      Option.bind (f_Mod_padded (x4 + 1) p1 s2) fun x7 =>
      Option.bind (f_Mod_padded (x4 + 2) p1 s2) fun x9 =>
      Option.bind (f_Mod_padded (x4 + 3) p1 s2) fun x11 =>
      if jin x1 64 then
      jlet (va_up s2 46 (upd (s2 46) x1.toNatClampNeg ((((x5 <<< (24 &&& 31)) ||| (x7 <<< (16 &&& 31))) ||| (x9 <<< (8 &&& 31))) ||| x11))) fun s13 =>
      jlet (x1 + 1) fun x16 =>
      L_Mod_block_2 p0 p1 n x16 s13
      else none

def f_Mod_block (p0 : Int32) (p1 : Int32) (s : jS) : Option (jS) :=
  Option.bind (L_Mod_block_2 p0 p1 jF 0 s) fun (x19, s20) =>
  Option.bind (L_Mod_block_76 jF 16 s20) fun (x46, s47) =>
  Option.bind (L_Mod_block_179 jF 0 s47) fun (x58, s59) =>
  Option.bind (L_Mod_block_205 jF 0 s59) fun (x68, s69) =>
  Option.bind (L_Mod_block_224 jF 0 s69) fun (x81, s82) =>
  some s82

def L_Mod_digest_73 (x9 : Int32) : Nat → Int32 → jS → Option (Int32 × jS)
  | 0, _, _ => none
  | n + 1, x22, s23 =>
    if x9 ≤ x22 then
      some (x22, s23)
    else
      Option.bind (f_Mod_block x22 x9 s23) fun s25 =>
      jlet (x22 + 64) fun x27 =>
      L_Mod_digest_73 x9 n x27 s25

def L_Mod_digest_47 : Nat → Int32 → jS → Option (Int32 × jS)
  | 0, _, _ => none
  | n + 1, x10, s11 =>
    if 8 ≤ x10 then
      some (x10, s11)
    else
      if jin x10 8 then
      if jin x10 8 then
      jlet (va_up s11 44 (upd (s11 44) x10.toNatClampNeg (s11 45 x10.toNatClampNeg))) fun s14 =>
      jlet (x10 + 1) fun x17 =>
      L_Mod_digest_47 n x17 s14
      else none
      else none

def f_Mod_digest (p0 : Int32) (s : jS) : Option (Int32 × jS) :=
  Option.bind (α := Int32) (
    if p0 < 0 then
      some 1
    else
      if p0 ≤ 7 then
        some 0
      else
        some 1) fun x3 =>
  jlet (va_up s 0 (fun _ => x3)) fun s6 =>
  if (s6 0 0) ≤ 0 then
    jlet (((((s6 40 0) + 9) + 63) / 64) * 64) fun x9 =>
    Option.bind (L_Mod_digest_47 jF 0 s6) fun (x19, s20) =>
    Option.bind (L_Mod_digest_73 x9 jF 0 s20) fun (x29, s30) =>
    if jin p0 8 then
    some (s30 44 p0.toNatClampNeg, s30)
    else none
  else
    some (0, s6)

def f_Mod_enough (p0 : Int32) (s : jS) : Option (Int32) :=
  Option.bind (α := Int32) (
    if p0 < 0 then
      some 0
    else
      Option.bind (f_Mod_mask s) fun x2 =>
      if x2 < p0 then
        some 0
      else
        Option.bind (f_Mod_bits p0) fun x5 =>
        if x5 < (s 12 0) then
          some 0
        else
          some 1) fun x8 =>
  if jbo x8 then
  some x8
  else none

def L_Mod_recover_46 : Nat → Int32 → jS → Option (Int32 × jS)
  | 0, _, _ => none
  | n + 1, x12, s13 =>
    if 7 ≤ x12 then
      some (x12, s13)
    else
      if jin x12 7 then
      if jin x12 7 then
      jlet (va_up s13 38 (upd (s13 38) x12.toNatClampNeg (s13 36 x12.toNatClampNeg))) fun s16 =>
      jlet (x12 + 1) fun x19 =>
      L_Mod_recover_46 n x19 s16
      else none
      else none

def f_Mod_recover (p0 : Int32) (s : jS) : Option (Int32 × jS) :=
  Option.bind (α := Int32) (
    if (s 15 0) = 0 then
      some 1
    else
      if ¬ (s 16 0) = 0 then
        Option.bind (f_Mod_enough p0 s) fun x3 =>
        if ¬ x3 = 0 then
          some 0
        else
          some 2
      else
        some 1) fun x6 =>
  jlet (va_up s 0 (fun _ => x6)) fun s9 =>
  if (s9 0 0) ≤ 0 then
    Option.bind (L_Mod_recover_46 jF 0 s9) fun (x21, s22) =>
    Option.bind (f_Mod_atZero p0 s22) fun x24 =>
    some (x24, s22)
  else
    some (0, s9)

def L_Mod_refresh_43 (x9 : Int32) : Nat → Int32 → jS → Option (Int32 × jS)
  | 0, _, _ => none
  | n + 1, x12, s13 =>
    if (s13 11 0) < x12 then
      some (x12, s13)
    else
      Option.bind (f_Mod_works x12 8 s13) fun x15 =>
      Option.bind (α := jS) (
        if ¬ x15 = 0 then
          Option.bind (f_Mod_f x12 x9 s13) fun x18 =>
          if jin ((7 * x12) - 7) 49 then
          if ¬ (s13 10 0) = 0 then
          jlet (jrem ((x18 - (s13 19 ((7 * x12) - 7).toNatClampNeg)) + (s13 10 0)) (s13 10 0)) fun x22 =>
          if jin (x9 - 1) 7 then
          if ¬ (s13 10 0) = 0 then
          if jin (x9 - 1) 7 then
          jlet (va_up s13 36 (upd (s13 36) (x9 - 1).toNatClampNeg (jrem ((s13 36 (x9 - 1).toNatClampNeg) + x22) (s13 10 0)))) fun s25 =>
          some s25
          else none
          else none
          else none
          else none
          else none
        else
          some s13) fun s29 =>
      jlet (x12 + 1) fun x32 =>
      L_Mod_refresh_43 x9 n x32 s29

def L_Mod_refresh_33 : Nat → Int32 → jS → Option (Int32 × jS)
  | 0, _, _ => none
  | n + 1, x9, s10 =>
    if (s10 11 0) < x9 then
      some (x9, s10)
    else
      Option.bind (L_Mod_refresh_43 x9 jF 1 s10) fun (x34, s35) =>
      if jin (x9 - 1) 7 then
      jlet (va_up s35 37 (upd (s35 37) (x9 - 1).toNatClampNeg 0)) fun s37 =>
      jlet (x9 + 1) fun x40 =>
      L_Mod_refresh_33 n x40 s37
      else none

def f_Mod_refresh (s : jS) : Option (jS) :=
  Option.bind (α := Int32) (
    if (s 15 0) = 0 then
      some 1
    else
      if ¬ (s 16 0) = 0 then
        some 0
      else
        some 1) fun x3 =>
  jlet (va_up s 0 (fun _ => x3)) fun s6 =>
  if (s6 0 0) ≤ 0 then
    Option.bind (L_Mod_refresh_33 jF 1 s6) fun (x42, s43) =>
    Option.bind (f_Mod_forget s43) fun s45 =>
    some s45
  else
    some s6

def L_Mod_handOn_230 : Nat → Int32 → jS → Option (Int32 × jS)
  | 0, _, _ => none
  | n + 1, x70, s71 =>
    if 7 ≤ x70 then
      some (x70, s71)
    else
      Option.bind (α := Int32) (
        if (s71 11 0) ≤ x70 then
          some 0
        else
          if jin x70 7 then
          some (s71 38 x70.toNatClampNeg)
          else none) fun x75 =>
      if jin x70 7 then
      jlet (va_up s71 36 (upd (s71 36) x70.toNatClampNeg x75)) fun s78 =>
      if jin x70 7 then
      jlet (va_up s78 37 (upd (s78 37) x70.toNatClampNeg 0)) fun s81 =>
      jlet (x70 + 1) fun x84 =>
      L_Mod_handOn_230 n x84 s81
      else none
      else none

def L_Mod_handOn_114 (p1 : Int32) (x16 : Int32) (s17 : jS) (x20 : Int32) : Nat → Int32 → Int32 → Option (Int32 × Int32)
  | 0, _, _ => none
  | n + 1, x27, x28 =>
    if p1 ≤ x28 then
      some (x27, x28)
    else
      if (s17 12 0) ≤ x28 then
        some (x27, x28)
      else
        if jin (((7 * x20) - 7) + x28) 49 then
        Option.bind (f_Mod_power x16 x28 s17) fun x32 =>
        if ¬ (s17 10 0) = 0 then
        jlet (jrem (x27 + ((s17 19 (((7 * x20) - 7) + x28).toNatClampNeg) * x32)) (s17 10 0)) fun x35 =>
        jlet (x28 + 1) fun x36 =>
        L_Mod_handOn_114 p1 x16 s17 x20 n x35 x36
        else none
        else none

def L_Mod_handOn_79 (p0 : Int32) (p1 : Int32) (x16 : Int32) (s17 : jS) : Nat → Int32 → Int32 → Option (Int32 × Int32)
  | 0, _, _ => none
  | n + 1, x19, x20 =>
    if (s17 11 0) < x20 then
      some (x19, x20)
    else
      Option.bind (f_Mod_in p0 x20) fun x22 =>
      Option.bind (α := Int32) (
        if ¬ x22 = 0 then
          if jin (x20 - 1) 7 then
          jlet (s17 36 (x20 - 1).toNatClampNeg) fun x26 =>
          Option.bind (L_Mod_handOn_114 p1 x16 s17 x20 jF x26 1) fun (x39, x40) =>
          Option.bind (f_Mod_weight p0 x20 s17) fun x42 =>
          if ¬ (s17 10 0) = 0 then
          jlet (jrem (x19 + (x42 * x39)) (s17 10 0)) fun x45 =>
          some x45
          else none
          else none
        else
          some x19) fun x48 =>
      jlet (x20 + 1) fun x51 =>
      L_Mod_handOn_79 p0 p1 x16 s17 n x48 x51

def L_Mod_handOn_67 (p0 : Int32) (p1 : Int32) (p2 : Int32) : Nat → Int32 → jS → Option (Int32 × jS)
  | 0, _, _ => none
  | n + 1, x16, s17 =>
    if p2 < x16 then
      some (x16, s17)
    else
      Option.bind (L_Mod_handOn_79 p0 p1 x16 s17 jF 0 1) fun (x53, x54) =>
      if jin (x16 - 1) 7 then
      jlet (va_up s17 38 (upd (s17 38) (x16 - 1).toNatClampNeg x53)) fun s56 =>
      jlet (x16 + 1) fun x59 =>
      L_Mod_handOn_67 p0 p1 p2 n x59 s56
      else none

def f_Mod_handOn (p0 : Int32) (p1 : Int32) (p2 : Int32) (s : jS) : Option (jS) :=
  Option.bind (α := Int32) (
    if (s 15 0) = 0 then
      some 1
    else
      if ¬ (s 16 0) = 0 then
        Option.bind (f_Mod_enough p0 s) fun x3 =>
        if x3 = 0 then
          some 2
        else
          if p2 < 1 then
            some 2
          else
            if 7 < p2 then
              some 2
            else
              if p1 < 1 then
                some 2
              else
                if p1 ≤ p2 then
                  some 0
                else
                  some 2
      else
        some 1) fun x10 =>
  jlet (va_up s 0 (fun _ => x10)) fun s13 =>
  if (s13 0 0) ≤ 0 then
    Option.bind (L_Mod_handOn_67 p0 p1 p2 jF 1 s13) fun (x61, s62) =>
    jlet (va_up s62 11 (fun _ => p2)) fun s64 =>
    jlet (va_up s64 12 (fun _ => p1)) fun s66 =>
    Option.bind (f_Mod_forget s66) fun s68 =>
    Option.bind (L_Mod_handOn_230 jF 0 s68) fun (x86, s87) =>
    some s87
  else
    some s13
end
section
set_option maxRecDepth 20000 in
theorem lp_Mod_added_65 {G : jG} {P : jR → va_W → Prop} (ws : va_W) (x1 : Int32) (x2 : Int32) (x5 : Int32) (x10 : Int32) : ∀ (n : Nat) (x13 : Int32) (r : Int32), L_Mod_added_65 x5 x10 n x13 = some r → J G m_Mod_added 0 0 0 P 86 [(1, .int x1), (2, .int x2), (3, .int x5), (4, .int x10), (5, .int r)] [] ws 0 0 → J G m_Mod_added 0 0 0 P 65 [(1, .int x1), (2, .int x2), (3, .int x5), (4, .int x10), (5, .int x13)] [] ws 0 0 := by
  intro n
  induction n with
  | zero =>
    intro x13 r H
    cases (show none = some r from H)
  | succ n ih =>
    intro x13 r H kx
    have H : (
    if (jrem (x13 * x10) 43) = (jrem x5 43) then
      some x13
    else
      jlet (x13 + 1) fun x15 =>
      L_Mod_added_65 x5 x10 n x15) = some r := H
    refine j_iload (pc := 65) 4 (jd k_Mod_added 44 rfl) rfl ?_
    refine j_iload (pc := 67) 3 (jd k_Mod_added 45 rfl) rfl ?_
    refine j_imul (pc := 69) (jd k_Mod_added 46 rfl) ?_
    refine j_bipush (pc := 70) (v := 43) (jd k_Mod_added 47 rfl) (by decide) ?_
    refine j_irem (pc := 72) (jd k_Mod_added 48 rfl) (by decide) ?_
    refine j_iload_n (pc := 73) 2 (jd k_Mod_added 49 rfl) rfl ?_
    refine j_bipush (pc := 74) (v := 43) (jd k_Mod_added 50 rfl) (by decide) ?_
    refine j_irem (pc := 76) (jd k_Mod_added 51 rfl) (by decide) ?_
    refine j_icmp_eq (pc := 77) (tgt := 86) (jd k_Mod_added 52 rfl) rfl (fun h14 => ?_) (fun h14 => ?_)
    · rw [if_pos h14] at H
      cases H
      exact kx
    · rw [if_neg h14] at H
      obtain ⟨x15, e16, H⟩ := olet H
      refine j_iinc (pc := 80) (lv' := [(1, .int x1), (2, .int x2), (3, .int x5), (4, .int x10), (5, .int x15)]) 4 (jd k_Mod_added 53 rfl) rfl e16 rfl (Nat.le_of_ble_eq_true rfl) rfl ?_
      refine j_goto (pc := 83) (tgt := 65) (jd k_Mod_added 54 rfl) rfl ?_
      exact ih x15 _ H kx

set_option maxRecDepth 20000 in
theorem c_Mod_added (G : jG) (ws : va_W) (p0 : Int32) (r : Int32) (H : f_Mod_added p0 = some r) : jCon G m_Mod_added y_Mod_added 0 0 0 [.int p0] ws (jEq (some (.int r)) ws) := by
  refine jCon.of (by decide +kernel) rfl rfl rfl (Nat.le_of_ble_eq_true rfl) rfl ?_
  have H : (
  jlet (p0 / 64) fun x1 =>
  jlet (jrem p0 64) fun x2 =>
  Option.bind (α := Int32) (
    if ¬ x1 = 2 then
      some ((x2 - 12) + 43)
    else
      if ¬ x2 = 12 then
        some ((x2 - 12) + 43)
      else
        some ((3 * x1) * x1)) fun x5 =>
  Option.bind (α := Int32) (
    if ¬ x1 = 2 then
      some ((x1 - 2) + 43)
    else
      if ¬ x2 = 12 then
        some ((x1 - 2) + 43)
      else
        some (2 * x2)) fun x10 =>
  Option.bind (L_Mod_added_65 x5 x10 jF 0) fun x17 =>
  jlet (jrem ((((x17 * x17) - x1) - 2) + 86) 43) fun x19 =>
  jlet (jrem (((x17 * ((x1 - x19) + 43)) - x2) + 43) 43) fun x20 =>
  some ((64 * x19) + x20)) = some r := H
  generalize hP9 : jEq (some (.int r)) ws = P
  refine j_iload_n (pc := 0) 0 (jd k_Mod_added 0 rfl) rfl ?_
  refine j_bipush (pc := 1) (v := 64) (jd k_Mod_added 1 rfl) (by decide) ?_
  refine j_idiv (pc := 3) (jd k_Mod_added 2 rfl) (by decide) ?_
  obtain ⟨x1, e24, H⟩ := olet H
  refine j_topi e24 ?_
  refine j_istore_n (pc := 4) (lv' := [(0, .int p0), (1, .int x1)]) (jd k_Mod_added 3 rfl) rfl (Nat.le_of_ble_eq_true rfl) rfl ?_
  refine j_iload_n (pc := 5) 0 (jd k_Mod_added 4 rfl) rfl ?_
  refine j_bipush (pc := 6) (v := 64) (jd k_Mod_added 5 rfl) (by decide) ?_
  refine j_irem (pc := 8) (jd k_Mod_added 6 rfl) (by decide) ?_
  obtain ⟨x2, e23, H⟩ := olet H
  refine j_topi e23 ?_
  refine j_istore_n (pc := 9) (lv' := [(0, .int p0), (1, .int x1), (2, .int x2)]) (jd k_Mod_added 7 rfl) rfl (Nat.le_of_ble_eq_true rfl) rfl ?_
  refine j_iload_n (pc := 10) 1 (jd k_Mod_added 8 rfl) rfl ?_
  refine j_iconst (pc := 11) (v := 2) (jd k_Mod_added 9 rfl) (by decide) ?_
  obtain ⟨x5, h6, H⟩ := obnd H
  have K7 : J G m_Mod_added 0 0 0 P 36 [(1, .int x1), (2, .int x2)] [.int x5] ws 0 0 := by
    refine j_istore_n (pc := 36) (lv' := [(1, .int x1), (2, .int x2), (3, .int x5)]) (jd k_Mod_added 25 rfl) rfl (Nat.le_of_ble_eq_true rfl) rfl ?_
    refine j_iload_n (pc := 37) 0 (jd k_Mod_added 26 rfl) rfl ?_
    refine j_iconst (pc := 38) (v := 2) (jd k_Mod_added 27 rfl) (by decide) ?_
    obtain ⟨x10, h11, H⟩ := obnd H
    have K12 : J G m_Mod_added 0 0 0 P 60 [(1, .int x1), (2, .int x2), (3, .int x5)] [.int x10] ws 0 0 := by
      refine j_istore (pc := 60) (lv' := [(1, .int x1), (2, .int x2), (3, .int x5), (4, .int x10)]) (jd k_Mod_added 41 rfl) rfl (Nat.le_of_ble_eq_true rfl) rfl ?_
      refine j_iconst (pc := 62) (v := 0) (jd k_Mod_added 42 rfl) (by decide) ?_
      refine j_istore (pc := 63) (lv' := [(1, .int x1), (2, .int x2), (3, .int x5), (4, .int x10), (5, .int 0)]) (jd k_Mod_added 43 rfl) rfl (Nat.le_of_ble_eq_true rfl) rfl ?_
      obtain ⟨x17, h18, H⟩ := obnd H
      refine lp_Mod_added_65 ws x1 x2 x5 x10 jF 0 _ h18 ?_
      refine j_pick (lv' := [(1, .int x1), (2, .int x2), (5, .int x17)]) [0, 1, 4] rfl ?_
      refine j_iload (pc := 86) 2 (jd k_Mod_added 55 rfl) rfl ?_
      refine j_iload (pc := 88) 2 (jd k_Mod_added 56 rfl) rfl ?_
      refine j_imul (pc := 90) (jd k_Mod_added 57 rfl) ?_
      refine j_iload_n (pc := 91) 0 (jd k_Mod_added 58 rfl) rfl ?_
      refine j_isub (pc := 92) (jd k_Mod_added 59 rfl) ?_
      refine j_iconst (pc := 93) (v := 2) (jd k_Mod_added 60 rfl) (by decide) ?_
      refine j_isub (pc := 94) (jd k_Mod_added 61 rfl) ?_
      refine j_bipush (pc := 95) (v := 86) (jd k_Mod_added 62 rfl) (by decide) ?_
      refine j_iadd (pc := 97) (jd k_Mod_added 63 rfl) ?_
      refine j_bipush (pc := 98) (v := 43) (jd k_Mod_added 64 rfl) (by decide) ?_
      refine j_irem (pc := 100) (jd k_Mod_added 65 rfl) (by decide) ?_
      obtain ⟨x19, e22, H⟩ := olet H
      refine j_topi e22 ?_
      refine j_istore (pc := 101) (lv' := [(1, .int x1), (2, .int x2), (5, .int x17), (6, .int x19)]) (jd k_Mod_added 66 rfl) rfl (Nat.le_of_ble_eq_true rfl) rfl ?_
      refine j_iload (pc := 103) 2 (jd k_Mod_added 67 rfl) rfl ?_
      refine j_iload_n (pc := 105) 0 (jd k_Mod_added 68 rfl) rfl ?_
      refine j_iload (pc := 106) 3 (jd k_Mod_added 69 rfl) rfl ?_
      refine j_isub (pc := 108) (jd k_Mod_added 70 rfl) ?_
      refine j_bipush (pc := 109) (v := 43) (jd k_Mod_added 71 rfl) (by decide) ?_
      refine j_iadd (pc := 111) (jd k_Mod_added 72 rfl) ?_
      refine j_imul (pc := 112) (jd k_Mod_added 73 rfl) ?_
      refine j_iload_n (pc := 113) 1 (jd k_Mod_added 74 rfl) rfl ?_
      refine j_isub (pc := 114) (jd k_Mod_added 75 rfl) ?_
      refine j_bipush (pc := 115) (v := 43) (jd k_Mod_added 76 rfl) (by decide) ?_
      refine j_iadd (pc := 117) (jd k_Mod_added 77 rfl) ?_
      refine j_bipush (pc := 118) (v := 43) (jd k_Mod_added 78 rfl) (by decide) ?_
      refine j_irem (pc := 120) (jd k_Mod_added 79 rfl) (by decide) ?_
      obtain ⟨x20, e21, H⟩ := olet H
      refine j_topi e21 ?_
      refine j_istore (pc := 121) (lv' := [(1, .int x1), (2, .int x2), (5, .int x17), (6, .int x19), (7, .int x20)]) (jd k_Mod_added 80 rfl) rfl (Nat.le_of_ble_eq_true rfl) rfl ?_
      refine j_bipush (pc := 123) (v := 64) (jd k_Mod_added 81 rfl) (by decide) ?_
      refine j_iload (pc := 125) 3 (jd k_Mod_added 82 rfl) rfl ?_
      refine j_imul (pc := 127) (jd k_Mod_added 83 rfl) ?_
      refine j_iload (pc := 128) 4 (jd k_Mod_added 84 rfl) rfl ?_
      refine j_iadd (pc := 130) (jd k_Mod_added 85 rfl) ?_
      cases H
      subst hP9
      exact j_iret (pc := 131) (jd k_Mod_added 86 rfl) rfl rfl ⟨rfl, rfl⟩
    have H := h11
    refine j_icmp_ne (pc := 39) (tgt := 54) (jd k_Mod_added 28 rfl) rfl (fun h8 => ?_) (fun h8 => ?_)
    · rw [if_pos h8] at H
      refine j_iload_n (pc := 54) 0 (jd k_Mod_added 36 rfl) rfl ?_
      refine j_iconst (pc := 55) (v := 2) (jd k_Mod_added 37 rfl) (by decide) ?_
      refine j_isub (pc := 56) (jd k_Mod_added 38 rfl) ?_
      refine j_bipush (pc := 57) (v := 43) (jd k_Mod_added 39 rfl) (by decide) ?_
      refine j_iadd (pc := 59) (jd k_Mod_added 40 rfl) ?_
      cases H
      exact K12
    · rw [if_neg (not_not_intro h8)] at H
      refine j_iload_n (pc := 42) 1 (jd k_Mod_added 29 rfl) rfl ?_
      refine j_bipush (pc := 43) (v := 12) (jd k_Mod_added 30 rfl) (by decide) ?_
      refine j_icmp_ne (pc := 45) (tgt := 54) (jd k_Mod_added 31 rfl) rfl (fun h9 => ?_) (fun h9 => ?_)
      · rw [if_pos h9] at H
        refine j_iload_n (pc := 54) 0 (jd k_Mod_added 36 rfl) rfl ?_
        refine j_iconst (pc := 55) (v := 2) (jd k_Mod_added 37 rfl) (by decide) ?_
        refine j_isub (pc := 56) (jd k_Mod_added 38 rfl) ?_
        refine j_bipush (pc := 57) (v := 43) (jd k_Mod_added 39 rfl) (by decide) ?_
        refine j_iadd (pc := 59) (jd k_Mod_added 40 rfl) ?_
        cases H
        exact K12
      · rw [if_neg (not_not_intro h9)] at H
        refine j_iconst (pc := 48) (v := 2) (jd k_Mod_added 32 rfl) (by decide) ?_
        refine j_iload_n (pc := 49) 1 (jd k_Mod_added 33 rfl) rfl ?_
        refine j_imul (pc := 50) (jd k_Mod_added 34 rfl) ?_
        refine j_goto (pc := 51) (tgt := 60) (jd k_Mod_added 35 rfl) rfl ?_
        cases H
        exact K12
  have H := h6
  refine j_icmp_ne (pc := 12) (tgt := 29) (jd k_Mod_added 10 rfl) rfl (fun h3 => ?_) (fun h3 => ?_)
  · rw [if_pos h3] at H
    refine j_iload_n (pc := 29) 2 (jd k_Mod_added 20 rfl) rfl ?_
    refine j_bipush (pc := 30) (v := 12) (jd k_Mod_added 21 rfl) (by decide) ?_
    refine j_isub (pc := 32) (jd k_Mod_added 22 rfl) ?_
    refine j_bipush (pc := 33) (v := 43) (jd k_Mod_added 23 rfl) (by decide) ?_
    refine j_iadd (pc := 35) (jd k_Mod_added 24 rfl) ?_
    cases H
    exact j_pick [1, 2] rfl K7
  · rw [if_neg (not_not_intro h3)] at H
    refine j_iload_n (pc := 15) 2 (jd k_Mod_added 11 rfl) rfl ?_
    refine j_bipush (pc := 16) (v := 12) (jd k_Mod_added 12 rfl) (by decide) ?_
    refine j_icmp_ne (pc := 18) (tgt := 29) (jd k_Mod_added 13 rfl) rfl (fun h4 => ?_) (fun h4 => ?_)
    · rw [if_pos h4] at H
      refine j_iload_n (pc := 29) 2 (jd k_Mod_added 20 rfl) rfl ?_
      refine j_bipush (pc := 30) (v := 12) (jd k_Mod_added 21 rfl) (by decide) ?_
      refine j_isub (pc := 32) (jd k_Mod_added 22 rfl) ?_
      refine j_bipush (pc := 33) (v := 43) (jd k_Mod_added 23 rfl) (by decide) ?_
      refine j_iadd (pc := 35) (jd k_Mod_added 24 rfl) ?_
      cases H
      exact j_pick [1, 2] rfl K7
    · rw [if_neg (not_not_intro h4)] at H
      refine j_iconst (pc := 21) (v := 3) (jd k_Mod_added 14 rfl) (by decide) ?_
      refine j_iload_n (pc := 22) 1 (jd k_Mod_added 15 rfl) rfl ?_
      refine j_imul (pc := 23) (jd k_Mod_added 16 rfl) ?_
      refine j_iload_n (pc := 24) 1 (jd k_Mod_added 17 rfl) rfl ?_
      refine j_imul (pc := 25) (jd k_Mod_added 18 rfl) ?_
      refine j_goto (pc := 26) (tgt := 36) (jd k_Mod_added 19 rfl) rfl ?_
      cases H
      exact j_pick [1, 2] rfl K7

set_option maxRecDepth 20000 in
theorem c_Mod_thrown (ad : Nat → Nat) (G : jG) (s : jS) (r : Int32) (H : f_Mod_thrown s = some r) : jCon G m_Mod_thrown y_Mod_thrown 0 0 0 [.ref (ad 0)] (mkR ad G s) (jEq (some (.int r)) (mkR ad G s)) := by
  refine jCon.of (by decide +kernel) rfl rfl rfl (Nat.le_of_ble_eq_true rfl) rfl ?_
  have H : (
  some (s 0 0)) = some r := H
  generalize hP9 : jEq (some (.int r)) (mkR ad G s) = P
  refine j_aload_n (pc := 0) 0 (jd k_Mod_thrown 0 rfl) rfl ?_
  refine j_get (pc := 1) (fs := flR ad s) (v := .int (s 0 0)) fl_Mod_170_10 0 (jd k_Mod_thrown 1 rfl) rfl rfl ?_
  cases H
  subst hP9
  exact j_iret (pc := 4) (jd k_Mod_thrown 2 rfl) rfl rfl ⟨rfl, rfl⟩

set_option maxRecDepth 20000 in
theorem c_Mod_field (ad : Nat → Nat) (G : jG) (p0 : Int32) (s : jS) (r : jS) (H : f_Mod_field p0 s = some r) : jCon G m_Mod_field y_Mod_field 0 0 0 [.ref (ad 0), .int p0] (mkR ad G s) (jEq none (mkR ad G r)) := by
  refine jCon.of (by decide +kernel) rfl rfl rfl (Nat.le_of_ble_eq_true rfl) rfl ?_
  have H : (
  Option.bind (α := Int32) (
    if p0 < 0 then
      some 1
    else
      if p0 ≤ 2 then
        some 0
      else
        some 1) fun x3 =>
  jlet (va_up s 0 (fun _ => x3)) fun s6 =>
  if (s6 0 0) ≤ 0 then
    jlet (va_up s6 1 (fun _ => p0)) fun s9 =>
    jlet (va_up s9 2 (fun _ => 0)) fun s11 =>
    some s11
  else
    some s6) = some r := H
  generalize hP9 : jEq none (mkR ad G r) = P
  refine j_aload_n (pc := 0) 0 (jd k_Mod_field 0 rfl) rfl ?_
  refine j_iload_n (pc := 1) 1 (jd k_Mod_field 1 rfl) rfl ?_
  obtain ⟨x3, h4, H⟩ := obnd H
  have K5 : J G m_Mod_field 0 0 0 P 15 [(0, .ref (ad 0)), (1, .int p0)] [.int x3, .ref (ad 0)] (mkR ad G s) 0 0 := by
    obtain ⟨s6, e7, H⟩ := olet H
    refine j_put (pc := 15) (fs := flR ad s) fp_Mod_170_10 0 (jd k_Mod_field 9 rfl) rfl rfl rfl (Nat.le_of_ble_eq_true rfl) ((wpR_0 ad G s _).trans (congrArg (mkR ad G) e7)) ?_
    refine j_aload_n (pc := 18) 0 (jd k_Mod_field 10 rfl) rfl ?_
    refine j_get (pc := 19) (fs := flR ad s6) (v := .int (s6 0 0)) fl_Mod_170_10 0 (jd k_Mod_field 11 rfl) rfl rfl ?_
    refine j_if_le (pc := 22) (tgt := 26) (jd k_Mod_field 12 rfl) rfl (fun h8 => ?_) (fun h8 => ?_)
    · rw [if_pos h8] at H
      refine j_aload_n (pc := 26) 0 (jd k_Mod_field 14 rfl) rfl ?_
      refine j_iload_n (pc := 27) 1 (jd k_Mod_field 15 rfl) rfl ?_
      obtain ⟨s9, e10, H⟩ := olet H
      refine j_put (pc := 28) (fs := flR ad s6) fp_Mod_181_10 0 (jd k_Mod_field 16 rfl) rfl rfl rfl (Nat.le_of_ble_eq_true rfl) ((wpR_1 ad G s6 _).trans (congrArg (mkR ad G) e10)) ?_
      refine j_aload_n (pc := 31) 0 (jd k_Mod_field 17 rfl) rfl ?_
      refine j_iconst (pc := 32) (v := 0) (jd k_Mod_field 18 rfl) (by decide) ?_
      obtain ⟨s11, e12, H⟩ := olet H
      refine j_put (pc := 33) (fs := flR ad s9) fp_Mod_184_10 0 (jd k_Mod_field 19 rfl) rfl rfl rfl (Nat.le_of_ble_eq_true rfl) ((wpR_2 ad G s9 _).trans (congrArg (mkR ad G) e12)) ?_
      cases H
      subst hP9
      exact j_vret (pc := 36) (jd k_Mod_field 20 rfl) rfl ⟨rfl, rfl⟩
    · rw [if_neg h8] at H
      cases H
      subst hP9
      exact j_vret (pc := 25) (jd k_Mod_field 13 rfl) rfl ⟨rfl, rfl⟩
  have H := h4
  refine j_if_lt (pc := 2) (tgt := 10) (jd k_Mod_field 2 rfl) rfl (fun h1 => ?_) (fun h1 => ?_)
  · rw [if_pos h1] at H
    refine j_iconst (pc := 10) (v := 1) (jd k_Mod_field 6 rfl) (by decide) ?_
    refine j_goto (pc := 11) (tgt := 15) (jd k_Mod_field 7 rfl) rfl ?_
    cases H
    exact K5
  · rw [if_neg h1] at H
    refine j_iload_n (pc := 5) 1 (jd k_Mod_field 3 rfl) rfl ?_
    refine j_iconst (pc := 6) (v := 2) (jd k_Mod_field 4 rfl) (by decide) ?_
    refine j_icmp_le (pc := 7) (tgt := 14) (jd k_Mod_field 5 rfl) rfl (fun h2 => ?_) (fun h2 => ?_)
    · rw [if_pos h2] at H
      refine j_iconst (pc := 14) (v := 0) (jd k_Mod_field 8 rfl) (by decide) ?_
      cases H
      exact K5
    · rw [if_neg h2] at H
      refine j_iconst (pc := 10) (v := 1) (jd k_Mod_field 6 rfl) (by decide) ?_
      refine j_goto (pc := 11) (tgt := 15) (jd k_Mod_field 7 rfl) rfl ?_
      cases H
      exact K5

set_option maxRecDepth 20000 in
theorem c_Mod_order (G : jG) (ws : va_W) (p0 : Int32) (r : Int32) (H : f_Mod_order p0 = some r) : jCon G m_Mod_order y_Mod_order 0 0 0 [.int p0] ws (jEq (some (.int r)) ws) := by
  refine jCon.of (by decide +kernel) rfl rfl rfl (Nat.le_of_ble_eq_true rfl) rfl ?_
  have H : (
  Option.bind (α := Int32) (
    if ¬ p0 = 0 then
      if ¬ p0 = 1 then
        some 31
      else
        some 1019
    else
      some 256) fun x3 =>
  some x3) = some r := H
  generalize hP9 : jEq (some (.int r)) ws = P
  refine j_iload_n (pc := 0) 0 (jd k_Mod_order 0 rfl) rfl ?_
  obtain ⟨x3, h4, H⟩ := obnd H
  have K5 : J G m_Mod_order 0 0 0 P 23 [] [.int x3] ws 0 0 := by
    cases H
    subst hP9
    exact j_iret (pc := 23) (jd k_Mod_order 10 rfl) rfl rfl ⟨rfl, rfl⟩
  have H := h4
  refine j_if_ne (pc := 1) (tgt := 10) (jd k_Mod_order 1 rfl) rfl (fun h1 => ?_) (fun h1 => ?_)
  · rw [if_pos h1] at H
    refine j_iload_n (pc := 10) 0 (jd k_Mod_order 4 rfl) rfl ?_
    refine j_iconst (pc := 11) (v := 1) (jd k_Mod_order 5 rfl) (by decide) ?_
    refine j_icmp_ne (pc := 12) (tgt := 21) (jd k_Mod_order 6 rfl) rfl (fun h2 => ?_) (fun h2 => ?_)
    · rw [if_pos h2] at H
      refine j_bipush (pc := 21) (v := 31) (jd k_Mod_order 9 rfl) (by decide) ?_
      cases H
      exact j_pick [] rfl K5
    · rw [if_neg (not_not_intro h2)] at H
      refine j_sipush (pc := 15) (v := 1019) (jd k_Mod_order 7 rfl) (by decide) ?_
      refine j_goto (pc := 18) (tgt := 23) (jd k_Mod_order 8 rfl) rfl ?_
      cases H
      exact j_pick [] rfl K5
  · rw [if_neg (not_not_intro h1)] at H
    refine j_sipush (pc := 4) (v := 256) (jd k_Mod_order 2 rfl) (by decide) ?_
    refine j_goto (pc := 7) (tgt := 23) (jd k_Mod_order 3 rfl) rfl ?_
    cases H
    exact j_pick [] rfl K5

set_option maxRecDepth 20000 in
theorem c_Mod_isElement (G : jG) (ws : va_W) (p0 : Int32) (p1 : Int32) (r : Int32) (H : f_Mod_isElement p0 p1 = some r) : jCon G m_Mod_isElement y_Mod_isElement 1 0 0 [.int p0, .int p1] ws (jEq (some (.int r)) ws) := by
  refine jCon.of (by decide +kernel) rfl rfl rfl (Nat.le_of_ble_eq_true rfl) rfl ?_
  have H : (
  Option.bind (α := Int32) (
    if p1 < 0 then
      some 0
    else
      Option.bind (f_Mod_order p0) fun x2 =>
      if x2 ≤ p1 then
        some 0
      else
        some 1) fun x5 =>
  if jbo x5 then
  some x5
  else none) = some r := H
  generalize hP9 : jEq (some (.int r)) ws = P
  refine j_iload_n (pc := 0) 1 (jd k_Mod_isElement 0 rfl) rfl ?_
  obtain ⟨x5, h6, H⟩ := obnd H
  have K7 : J G m_Mod_isElement 1 0 0 P 17 [] [.int x5] ws 0 0 := by
    obtain ⟨h8, H⟩ := ochk H
    cases H
    subst hP9
    exact j_iret (pc := 17) (jd k_Mod_isElement 9 rfl) rfl (jbo.nar h8) ⟨rfl, rfl⟩
  have H := h6
  refine j_if_lt (pc := 1) (tgt := 16) (jd k_Mod_isElement 1 rfl) rfl (fun h1 => ?_) (fun h1 => ?_)
  · rw [if_pos h1] at H
    refine j_iconst (pc := 16) (v := 0) (jd k_Mod_isElement 8 rfl) (by decide) ?_
    cases H
    exact j_pick [] rfl K7
  · rw [if_neg h1] at H
    refine j_iload_n (pc := 4) 1 (jd k_Mod_isElement 2 rfl) rfl ?_
    refine j_iload_n (pc := 5) 0 (jd k_Mod_isElement 3 rfl) rfl ?_
    obtain ⟨x2, h3, H⟩ := obnd H
    refine jc_S (pc := 6) (st := [.int p1]) (c_Mod_order G _ p0 _ h3) L0_Mod_order w1285 w1286 (jd k_Mod_isElement 4 rfl) rfl (Nat.le_of_ble_eq_true rfl) (by decide) (Nat.le_refl _) (Nat.le_refl _) rfl rfl ?_
    refine j_icmp_ge (pc := 9) (tgt := 16) (jd k_Mod_isElement 5 rfl) rfl (fun h4 => ?_) (fun h4 => ?_)
    · rw [if_pos h4] at H
      refine j_iconst (pc := 16) (v := 0) (jd k_Mod_isElement 8 rfl) (by decide) ?_
      cases H
      exact j_pick [] rfl K7
    · rw [if_neg h4] at H
      refine j_iconst (pc := 12) (v := 1) (jd k_Mod_isElement 6 rfl) (by decide) ?_
      refine j_goto (pc := 13) (tgt := 17) (jd k_Mod_isElement 7 rfl) rfl ?_
      cases H
      exact j_pick [] rfl K7

set_option maxRecDepth 20000 in
theorem c_Mod_less (G : jG) (ws : va_W) (p0 : Int32) (p1 : Int32) (p2 : Int32) (r : Int32) (H : f_Mod_less p0 p1 p2 = some r) : jCon G m_Mod_less y_Mod_less 1 0 0 [.int p0, .int p1, .int p2] ws (jEq (some (.int r)) ws) := by
  refine jCon.of (by decide +kernel) rfl rfl rfl (Nat.le_of_ble_eq_true rfl) rfl ?_
  have H : (
  Option.bind (α := Int32) (
    if ¬ p0 = 0 then
      Option.bind (f_Mod_order p0) fun x2 =>
      Option.bind (f_Mod_order p0) fun x4 =>
      if ¬ x4 = 0 then
      some (jrem ((p1 - p2) + x2) x4)
      else none
    else
      some (p1 ^^^ p2)) fun x7 =>
  some x7) = some r := H
  generalize hP9 : jEq (some (.int r)) ws = P
  refine j_iload_n (pc := 0) 0 (jd k_Mod_less 0 rfl) rfl ?_
  obtain ⟨x7, h8, H⟩ := obnd H
  have K9 : J G m_Mod_less 1 0 0 P 23 [] [.int x7] ws 0 0 := by
    cases H
    subst hP9
    exact j_iret (pc := 23) (jd k_Mod_less 15 rfl) rfl rfl ⟨rfl, rfl⟩
  have H := h8
  refine j_if_ne (pc := 1) (tgt := 10) (jd k_Mod_less 1 rfl) rfl (fun h1 => ?_) (fun h1 => ?_)
  · rw [if_pos h1] at H
    refine j_iload_n (pc := 10) 1 (jd k_Mod_less 6 rfl) rfl ?_
    refine j_iload_n (pc := 11) 2 (jd k_Mod_less 7 rfl) rfl ?_
    refine j_isub (pc := 12) (jd k_Mod_less 8 rfl) ?_
    refine j_iload_n (pc := 13) 0 (jd k_Mod_less 9 rfl) rfl ?_
    obtain ⟨x2, h3, H⟩ := obnd H
    refine jc_S (pc := 14) (st := [.int (p1 - p2)]) (c_Mod_order G _ p0 _ h3) L0_Mod_order w1285 w1286 (jd k_Mod_less 10 rfl) rfl (Nat.le_of_ble_eq_true rfl) (by decide) (Nat.le_refl _) (Nat.le_refl _) rfl rfl ?_
    refine j_iadd (pc := 17) (jd k_Mod_less 11 rfl) ?_
    refine j_iload_n (pc := 18) 0 (jd k_Mod_less 12 rfl) rfl ?_
    obtain ⟨x4, h5, H⟩ := obnd H
    refine jc_S (pc := 19) (st := [.int ((p1 - p2) + x2)]) (c_Mod_order G _ p0 _ h5) L0_Mod_order w1285 w1286 (jd k_Mod_less 13 rfl) rfl (Nat.le_of_ble_eq_true rfl) (by decide) (Nat.le_refl _) (Nat.le_refl _) rfl rfl ?_
    obtain ⟨h6, H⟩ := ochk H
    refine j_irem (pc := 22) (jd k_Mod_less 14 rfl) h6 ?_
    cases H
    exact j_pick [] rfl K9
  · rw [if_neg (not_not_intro h1)] at H
    refine j_iload_n (pc := 4) 1 (jd k_Mod_less 2 rfl) rfl ?_
    refine j_iload_n (pc := 5) 2 (jd k_Mod_less 3 rfl) rfl ?_
    refine j_ixor (pc := 6) (jd k_Mod_less 4 rfl) ?_
    refine j_goto (pc := 7) (tgt := 23) (jd k_Mod_less 5 rfl) rfl ?_
    cases H
    exact j_pick [] rfl K9

set_option maxRecDepth 20000 in
theorem lp_Mod_times_19 {G : jG} {P : jR → va_W → Prop} (ws : va_W) (p1 : Int32) (p2 : Int32) : ∀ (n : Nat) (x2 : Int32) (x3 : Int32) (r : Int32 × Int32), L_Mod_times_19 p1 p2 n x2 x3 = some r → J G m_Mod_times 1 0 0 P 70 [(1, .int p1), (2, .int p2), (3, .int r.1), (4, .int r.2)] [] ws 0 0 → J G m_Mod_times 1 0 0 P 19 [(1, .int p1), (2, .int p2), (3, .int x2), (4, .int x3)] [] ws 0 0 := by
  intro n
  induction n with
  | zero =>
    intro x2 x3 r H
    cases (show none = some r from H)
  | succ n ih =>
    intro x2 x3 r H kx
    have H : (
    if x3 < 0 then
      some (x2, x3)
    else
      Option.bind (α := Int32) (
        if (x2 &&& 128) = 0 then
          some (x2 <<< (1 &&& 31))
        else
          some ((x2 <<< (1 &&& 31)) ^^^ 283)) fun x6 =>
      Option.bind (α := Int32) (
        if ¬ ((p2 >>> (x3 &&& 31)) &&& 1) = 1 then
          some x6
        else
          some (x6 ^^^ p1)) fun x10 =>
      jlet (x3 + (-1)) fun x13 =>
      L_Mod_times_19 p1 p2 n x10 x13) = some r := H
    refine j_iload (pc := 19) 3 (jd k_Mod_times 13 rfl) rfl ?_
    refine j_if_lt (pc := 21) (tgt := 70) (jd k_Mod_times 14 rfl) rfl (fun h4 => ?_) (fun h4 => ?_)
    · rw [if_pos h4] at H
      cases H
      exact kx
    · rw [if_neg h4] at H
      refine j_iload_n (pc := 24) 2 (jd k_Mod_times 15 rfl) rfl ?_
      refine j_sipush (pc := 25) (v := 128) (jd k_Mod_times 16 rfl) (by decide) ?_
      refine j_iand (pc := 28) (jd k_Mod_times 17 rfl) ?_
      obtain ⟨x6, h7, H⟩ := obnd H
      have K8 : J G m_Mod_times 1 0 0 P 45 [(1, .int p1), (2, .int p2), (4, .int x3)] [.int x6] ws 0 0 := by
        refine j_istore_n (pc := 45) (lv' := [(1, .int p1), (2, .int p2), (3, .int x6), (4, .int x3)]) (jd k_Mod_times 28 rfl) rfl (Nat.le_of_ble_eq_true rfl) rfl ?_
        refine j_iload_n (pc := 46) 1 (jd k_Mod_times 29 rfl) rfl ?_
        refine j_iload (pc := 47) 3 (jd k_Mod_times 30 rfl) rfl ?_
        refine j_ishr (pc := 49) (jd k_Mod_times 31 rfl) ?_
        refine j_iconst (pc := 50) (v := 1) (jd k_Mod_times 32 rfl) (by decide) ?_
        refine j_iand (pc := 51) (jd k_Mod_times 33 rfl) ?_
        refine j_iconst (pc := 52) (v := 1) (jd k_Mod_times 34 rfl) (by decide) ?_
        obtain ⟨x10, h11, H⟩ := obnd H
        have K12 : J G m_Mod_times 1 0 0 P 63 [(1, .int p1), (2, .int p2), (4, .int x3)] [.int x10] ws 0 0 := by
          refine j_istore_n (pc := 63) (lv' := [(1, .int p1), (2, .int p2), (3, .int x10), (4, .int x3)]) (jd k_Mod_times 41 rfl) rfl (Nat.le_of_ble_eq_true rfl) rfl ?_
          obtain ⟨x13, e14, H⟩ := olet H
          refine j_iinc (pc := 64) (lv' := [(1, .int p1), (2, .int p2), (3, .int x10), (4, .int x13)]) 3 (jd k_Mod_times 42 rfl) rfl e14 rfl (Nat.le_of_ble_eq_true rfl) rfl ?_
          refine j_goto (pc := 67) (tgt := 19) (jd k_Mod_times 43 rfl) rfl ?_
          exact ih x10 x13 _ H kx
        have H := h11
        refine j_icmp_ne (pc := 53) (tgt := 62) (jd k_Mod_times 35 rfl) rfl (fun h9 => ?_) (fun h9 => ?_)
        · rw [if_pos h9] at H
          refine j_iload_n (pc := 62) 2 (jd k_Mod_times 40 rfl) rfl ?_
          cases H
          exact j_pick [0, 1, 3] rfl K12
        · rw [if_neg (not_not_intro h9)] at H
          refine j_iload_n (pc := 56) 2 (jd k_Mod_times 36 rfl) rfl ?_
          refine j_iload_n (pc := 57) 0 (jd k_Mod_times 37 rfl) rfl ?_
          refine j_ixor (pc := 58) (jd k_Mod_times 38 rfl) ?_
          refine j_goto (pc := 59) (tgt := 63) (jd k_Mod_times 39 rfl) rfl ?_
          cases H
          exact j_pick [0, 1, 3] rfl K12
      have H := h7
      refine j_if_eq (pc := 29) (tgt := 42) (jd k_Mod_times 18 rfl) rfl (fun h5 => ?_) (fun h5 => ?_)
      · rw [if_pos h5] at H
        refine j_iload_n (pc := 42) 2 (jd k_Mod_times 25 rfl) rfl ?_
        refine j_iconst (pc := 43) (v := 1) (jd k_Mod_times 26 rfl) (by decide) ?_
        refine j_ishl (pc := 44) (jd k_Mod_times 27 rfl) ?_
        cases H
        exact j_pick [0, 1, 3] rfl K8
      · rw [if_neg h5] at H
        refine j_iload_n (pc := 32) 2 (jd k_Mod_times 19 rfl) rfl ?_
        refine j_iconst (pc := 33) (v := 1) (jd k_Mod_times 20 rfl) (by decide) ?_
        refine j_ishl (pc := 34) (jd k_Mod_times 21 rfl) ?_
        refine j_sipush (pc := 35) (v := 283) (jd k_Mod_times 22 rfl) (by decide) ?_
        refine j_ixor (pc := 38) (jd k_Mod_times 23 rfl) ?_
        refine j_goto (pc := 39) (tgt := 45) (jd k_Mod_times 24 rfl) rfl ?_
        cases H
        exact j_pick [0, 1, 3] rfl K8

set_option maxRecDepth 20000 in
theorem c_Mod_times (G : jG) (ws : va_W) (p0 : Int32) (p1 : Int32) (p2 : Int32) (r : Int32) (H : f_Mod_times p0 p1 p2 = some r) : jCon G m_Mod_times y_Mod_times 1 0 0 [.int p0, .int p1, .int p2] ws (jEq (some (.int r)) ws) := by
  refine jCon.of (by decide +kernel) rfl rfl rfl (Nat.le_of_ble_eq_true rfl) rfl ?_
  have H : (
  if p0 ≤ 0 then
    Option.bind (L_Mod_times_19 p1 p2 jF 0 7) fun (x15, x16) =>
    some x15
  else
    Option.bind (f_Mod_order p0) fun x18 =>
    if ¬ x18 = 0 then
    some (jrem (p1 * p2) x18)
    else none) = some r := H
  generalize hP9 : jEq (some (.int r)) ws = P
  refine j_iload_n (pc := 0) 0 (jd k_Mod_times 0 rfl) rfl ?_
  refine j_if_le (pc := 1) (tgt := 13) (jd k_Mod_times 1 rfl) rfl (fun h1 => ?_) (fun h1 => ?_)
  · rw [if_pos h1] at H
    refine j_iconst (pc := 13) (v := 0) (jd k_Mod_times 9 rfl) (by decide) ?_
    refine j_istore_n (pc := 14) (lv' := [(0, .int p0), (1, .int p1), (2, .int p2), (3, .int 0)]) (jd k_Mod_times 10 rfl) rfl (Nat.le_of_ble_eq_true rfl) rfl ?_
    refine j_bipush (pc := 15) (v := 7) (jd k_Mod_times 11 rfl) (by decide) ?_
    refine j_istore (pc := 17) (lv' := [(0, .int p0), (1, .int p1), (2, .int p2), (3, .int 0), (4, .int 7)]) (jd k_Mod_times 12 rfl) rfl (Nat.le_of_ble_eq_true rfl) rfl ?_
    obtain ⟨⟨x15, x16⟩, h17, H⟩ := obnd H
    refine j_pick (lv' := [(1, .int p1), (2, .int p2), (3, .int 0), (4, .int 7)]) [1, 2, 3, 4] rfl ?_
    refine lp_Mod_times_19 ws p1 p2 jF 0 7 _ h17 ?_
    refine j_pick (lv' := [(3, .int x15)]) [2] rfl ?_
    refine j_iload_n (pc := 70) 0 (jd k_Mod_times 44 rfl) rfl ?_
    cases H
    subst hP9
    exact j_iret (pc := 71) (jd k_Mod_times 45 rfl) rfl rfl ⟨rfl, rfl⟩
  · rw [if_neg h1] at H
    refine j_iload_n (pc := 4) 1 (jd k_Mod_times 2 rfl) rfl ?_
    refine j_iload_n (pc := 5) 2 (jd k_Mod_times 3 rfl) rfl ?_
    refine j_imul (pc := 6) (jd k_Mod_times 4 rfl) ?_
    refine j_iload_n (pc := 7) 0 (jd k_Mod_times 5 rfl) rfl ?_
    obtain ⟨x18, h19, H⟩ := obnd H
    refine jc_S (pc := 8) (st := [.int (p1 * p2)]) (c_Mod_order G _ p0 _ h19) L0_Mod_order w1285 w1286 (jd k_Mod_times 6 rfl) rfl (Nat.le_of_ble_eq_true rfl) (by decide) (Nat.le_refl _) (Nat.le_refl _) rfl rfl ?_
    obtain ⟨h20, H⟩ := ochk H
    refine j_irem (pc := 11) (jd k_Mod_times 7 rfl) h20 ?_
    cases H
    subst hP9
    exact j_iret (pc := 12) (jd k_Mod_times 8 rfl) rfl rfl ⟨rfl, rfl⟩

set_option maxRecDepth 20000 in
theorem lp_Mod_over_2 {G : jG} {P : jR → va_W → Prop} (ws : va_W) (p0 : Int32) (p1 : Int32) (p2 : Int32) : ∀ (n : Nat) (x1 : Int32) (r : Int32), L_Mod_over_2 p0 p1 p2 n x1 = some r → J G m_Mod_over 2 0 0 P 18 [(0, .int p0), (1, .int p1), (2, .int p2), (3, .int r)] [] ws 0 0 → J G m_Mod_over 2 0 0 P 2 [(0, .int p0), (1, .int p1), (2, .int p2), (3, .int x1)] [] ws 0 0 := by
  intro n
  induction n with
  | zero =>
    intro x1 r H
    cases (show none = some r from H)
  | succ n ih =>
    intro x1 r H kx
    have H : (
    Option.bind (f_Mod_times p0 x1 p2) fun x2 =>
    if x2 = p1 then
      some x1
    else
      jlet (x1 + 1) fun x5 =>
      L_Mod_over_2 p0 p1 p2 n x5) = some r := H
    refine j_iload_n (pc := 2) 0 (jd k_Mod_over 2 rfl) rfl ?_
    refine j_iload_n (pc := 3) 3 (jd k_Mod_over 3 rfl) rfl ?_
    refine j_iload_n (pc := 4) 2 (jd k_Mod_over 4 rfl) rfl ?_
    obtain ⟨x2, h3, H⟩ := obnd H
    refine jc_S (pc := 5) (st := []) (c_Mod_times G _ p0 x1 p2 _ h3) L0_Mod_times w1302 w1303 (jd k_Mod_over 5 rfl) rfl (Nat.le_of_ble_eq_true rfl) (by decide) (Nat.le_refl _) (Nat.le_refl _) rfl rfl ?_
    refine j_iload_n (pc := 8) 1 (jd k_Mod_over 6 rfl) rfl ?_
    refine j_icmp_eq (pc := 9) (tgt := 18) (jd k_Mod_over 7 rfl) rfl (fun h4 => ?_) (fun h4 => ?_)
    · rw [if_pos h4] at H
      cases H
      exact kx
    · rw [if_neg h4] at H
      obtain ⟨x5, e6, H⟩ := olet H
      refine j_iinc (pc := 12) (lv' := [(0, .int p0), (1, .int p1), (2, .int p2), (3, .int x5)]) 3 (jd k_Mod_over 8 rfl) rfl e6 rfl (Nat.le_of_ble_eq_true rfl) rfl ?_
      refine j_goto (pc := 15) (tgt := 2) (jd k_Mod_over 9 rfl) rfl ?_
      exact ih x5 _ H kx

set_option maxRecDepth 20000 in
theorem c_Mod_over (G : jG) (ws : va_W) (p0 : Int32) (p1 : Int32) (p2 : Int32) (r : Int32) (H : f_Mod_over p0 p1 p2 = some r) : jCon G m_Mod_over y_Mod_over 2 0 0 [.int p0, .int p1, .int p2] ws (jEq (some (.int r)) ws) := by
  refine jCon.of (by decide +kernel) rfl rfl rfl (Nat.le_of_ble_eq_true rfl) rfl ?_
  have H : (
  Option.bind (L_Mod_over_2 p0 p1 p2 jF 0) fun x7 =>
  some x7) = some r := H
  generalize hP9 : jEq (some (.int r)) ws = P
  refine j_iconst (pc := 0) (v := 0) (jd k_Mod_over 0 rfl) (by decide) ?_
  refine j_istore_n (pc := 1) (lv' := [(0, .int p0), (1, .int p1), (2, .int p2), (3, .int 0)]) (jd k_Mod_over 1 rfl) rfl (Nat.le_of_ble_eq_true rfl) rfl ?_
  obtain ⟨x7, h8, H⟩ := obnd H
  refine lp_Mod_over_2 ws p0 p1 p2 jF 0 _ h8 ?_
  refine j_pick (lv' := [(3, .int x7)]) [3] rfl ?_
  refine j_iload_n (pc := 18) 0 (jd k_Mod_over 10 rfl) rfl ?_
  cases H
  subst hP9
  exact j_iret (pc := 19) (jd k_Mod_over 11 rfl) rfl rfl ⟨rfl, rfl⟩

set_option maxRecDepth 20000 in
theorem c_Mod_plus (G : jG) (ws : va_W) (p0 : Int32) (p1 : Int32) (p2 : Int32) (r : Int32) (H : f_Mod_plus p0 p1 p2 = some r) : jCon G m_Mod_plus y_Mod_plus 1 0 0 [.int p0, .int p1, .int p2] ws (jEq (some (.int r)) ws) := by
  refine jCon.of (by decide +kernel) rfl rfl rfl (Nat.le_of_ble_eq_true rfl) rfl ?_
  have H : (
  Option.bind (α := Int32) (
    if ¬ p0 = 0 then
      Option.bind (f_Mod_order p0) fun x2 =>
      if ¬ x2 = 0 then
      some (jrem (p1 + p2) x2)
      else none
    else
      some (p1 ^^^ p2)) fun x5 =>
  some x5) = some r := H
  generalize hP9 : jEq (some (.int r)) ws = P
  refine j_iload_n (pc := 0) 0 (jd k_Mod_plus 0 rfl) rfl ?_
  obtain ⟨x5, h6, H⟩ := obnd H
  have K7 : J G m_Mod_plus 1 0 0 P 18 [] [.int x5] ws 0 0 := by
    cases H
    subst hP9
    exact j_iret (pc := 18) (jd k_Mod_plus 12 rfl) rfl rfl ⟨rfl, rfl⟩
  have H := h6
  refine j_if_ne (pc := 1) (tgt := 10) (jd k_Mod_plus 1 rfl) rfl (fun h1 => ?_) (fun h1 => ?_)
  · rw [if_pos h1] at H
    refine j_iload_n (pc := 10) 1 (jd k_Mod_plus 6 rfl) rfl ?_
    refine j_iload_n (pc := 11) 2 (jd k_Mod_plus 7 rfl) rfl ?_
    refine j_iadd (pc := 12) (jd k_Mod_plus 8 rfl) ?_
    refine j_iload_n (pc := 13) 0 (jd k_Mod_plus 9 rfl) rfl ?_
    obtain ⟨x2, h3, H⟩ := obnd H
    refine jc_S (pc := 14) (st := [.int (p1 + p2)]) (c_Mod_order G _ p0 _ h3) L0_Mod_order w1285 w1286 (jd k_Mod_plus 10 rfl) rfl (Nat.le_of_ble_eq_true rfl) (by decide) (Nat.le_refl _) (Nat.le_refl _) rfl rfl ?_
    obtain ⟨h4, H⟩ := ochk H
    refine j_irem (pc := 17) (jd k_Mod_plus 11 rfl) h4 ?_
    cases H
    exact j_pick [] rfl K7
  · rw [if_neg (not_not_intro h1)] at H
    refine j_iload_n (pc := 4) 1 (jd k_Mod_plus 2 rfl) rfl ?_
    refine j_iload_n (pc := 5) 2 (jd k_Mod_plus 3 rfl) rfl ?_
    refine j_ixor (pc := 6) (jd k_Mod_plus 4 rfl) ?_
    refine j_goto (pc := 7) (tgt := 18) (jd k_Mod_plus 5 rfl) rfl ?_
    cases H
    exact j_pick [] rfl K7
end
