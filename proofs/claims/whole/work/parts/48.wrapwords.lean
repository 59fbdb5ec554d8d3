set_option maxRecDepth 100000 in
theorem w440 : Cond.methodLink "SharingRoomLaw" 7 ⟨"SharingRoom", "field", "(I)V"⟩ ∈ jWS := jm 440 rfl rfl
set_option maxRecDepth 100000 in
theorem w441 : Cond.instanceMethod ⟨"SharingRoom", "field", "(I)V"⟩ ∈ jWS := jm 441 rfl rfl
set_option maxRecDepth 100000 in
theorem w442 : Cond.selects "SharingRoom" ⟨"SharingRoom", "field", "(I)V"⟩ ⟨"SharingRoom", "field", "(I)V"⟩ ∈ jWS := jm 442 rfl rfl
set_option maxRecDepth 100000 in
theorem w443 : Cond.code ⟨"SharingRoom", "field", "(I)V"⟩ prog_1_method_2_code 2 none ∈ jWS := jm 443 rfl rfl
theorem L0_SR_field : jL0 y_SR_field m_SR_field 1 := ⟨w443, w63, ⟨by decide +kernel, by decide +kernel⟩, by decide +kernel, by decide +kernel⟩
set_option maxRecDepth 100000 in
theorem wt446 : Cond.castable "java/lang/IllegalArgumentException" "java/lang/IllegalArgumentException" ∈ lw_tbl := List.mem_of_getElem? (i := 446) rfl
set_option maxRecDepth 100000 in
theorem wt439 : Cond.classLink "SharingRoomLaw" 13 "java/lang/IllegalArgumentException" ∈ lw_tbl := List.mem_of_getElem? (i := 439) rfl
set_option maxRecDepth 100000 in
theorem w519 : Cond.methodLink "SharingRoomLaw" 15 ⟨"SharingRoom", "point", "(II)I"⟩ ∈ jWS := jm 519 rfl rfl
set_option maxRecDepth 100000 in
theorem w520 : Cond.instanceMethod ⟨"SharingRoom", "point", "(II)I"⟩ ∈ jWS := jm 520 rfl rfl
set_option maxRecDepth 100000 in
theorem w521 : Cond.selects "SharingRoom" ⟨"SharingRoom", "point", "(II)I"⟩ ⟨"SharingRoom", "point", "(II)I"⟩ ∈ jWS := jm 521 rfl rfl
set_option maxRecDepth 100000 in
theorem w522 : Cond.code ⟨"SharingRoom", "point", "(II)I"⟩ prog_1_method_3_code 3 (some FieldType.int) ∈ jWS := jm 522 rfl rfl
theorem L0_SR_point : jL0 y_SR_point m_SR_point 2 := ⟨w522, w63, ⟨by decide +kernel, by decide +kernel⟩, by decide +kernel, by decide +kernel⟩
set_option maxRecDepth 100000 in
theorem wt544 : Cond.castable "java/lang/IllegalStateException" "java/lang/IllegalStateException" ∈ lw_tbl := List.mem_of_getElem? (i := 544) rfl
set_option maxRecDepth 100000 in
theorem wt518 : Cond.classLink "SharingRoomLaw" 19 "java/lang/IllegalStateException" ∈ lw_tbl := List.mem_of_getElem? (i := 518) rfl
set_option maxRecDepth 100000 in
theorem w569 : Cond.methodLink "SharingRoomLaw" 21 ⟨"SharingRoom", "combine", "(I)I"⟩ ∈ jWS := jm 569 rfl rfl
set_option maxRecDepth 100000 in
theorem w570 : Cond.instanceMethod ⟨"SharingRoom", "combine", "(I)I"⟩ ∈ jWS := jm 570 rfl rfl
set_option maxRecDepth 100000 in
theorem w571 : Cond.selects "SharingRoom" ⟨"SharingRoom", "combine", "(I)I"⟩ ⟨"SharingRoom", "combine", "(I)I"⟩ ∈ jWS := jm 571 rfl rfl
set_option maxRecDepth 100000 in
theorem w572 : Cond.code ⟨"SharingRoom", "combine", "(I)I"⟩ prog_1_method_4_code 2 (some FieldType.int) ∈ jWS := jm 572 rfl rfl
theorem L0_SR_combine : jL0 y_SR_combine m_SR_combine 1 := ⟨w572, w63, ⟨by decide +kernel, by decide +kernel⟩, by decide +kernel, by decide +kernel⟩
set_option maxRecDepth 100000 in
theorem w595 : Cond.methodLink "SharingRoomLaw" 25 ⟨"SharingRoom", "begin", "(III)V"⟩ ∈ jWS := jm 595 rfl rfl
set_option maxRecDepth 100000 in
theorem w596 : Cond.instanceMethod ⟨"SharingRoom", "begin", "(III)V"⟩ ∈ jWS := jm 596 rfl rfl
set_option maxRecDepth 100000 in
theorem w597 : Cond.selects "SharingRoom" ⟨"SharingRoom", "begin", "(III)V"⟩ ⟨"SharingRoom", "begin", "(III)V"⟩ ∈ jWS := jm 597 rfl rfl
set_option maxRecDepth 100000 in
theorem w598 : Cond.code ⟨"SharingRoom", "begin", "(III)V"⟩ prog_1_method_6_code 4 none ∈ jWS := jm 598 rfl rfl
theorem L0_SR_begin : jL0 y_SR_begin m_SR_begin 3 := ⟨w598, w63, ⟨by decide +kernel, by decide +kernel⟩, by decide +kernel, by decide +kernel⟩
set_option maxRecDepth 100000 in
theorem w629 : Cond.methodLink "SharingRoomLaw" 29 ⟨"SharingRoom", "give", "(IIII)V"⟩ ∈ jWS := jm 629 rfl rfl
set_option maxRecDepth 100000 in
theorem w630 : Cond.instanceMethod ⟨"SharingRoom", "give", "(IIII)V"⟩ ∈ jWS := jm 630 rfl rfl
set_option maxRecDepth 100000 in
theorem w631 : Cond.selects "SharingRoom" ⟨"SharingRoom", "give", "(IIII)V"⟩ ⟨"SharingRoom", "give", "(IIII)V"⟩ ∈ jWS := jm 631 rfl rfl
set_option maxRecDepth 100000 in
theorem w632 : Cond.code ⟨"SharingRoom", "give", "(IIII)V"⟩ prog_1_method_7_code 5 none ∈ jWS := jm 632 rfl rfl
theorem L0_SR_give : jL0 y_SR_give m_SR_give 4 := ⟨w632, w63, ⟨by decide +kernel, by decide +kernel⟩, by decide +kernel, by decide +kernel⟩
set_option maxRecDepth 100000 in
theorem w670 : Cond.methodLink "SharingRoomLaw" 33 ⟨"SharingRoom", "fault", "(III)V"⟩ ∈ jWS := jm 670 rfl rfl
set_option maxRecDepth 100000 in
theorem w671 : Cond.instanceMethod ⟨"SharingRoom", "fault", "(III)V"⟩ ∈ jWS := jm 671 rfl rfl
set_option maxRecDepth 100000 in
theorem w672 : Cond.selects "SharingRoom" ⟨"SharingRoom", "fault", "(III)V"⟩ ⟨"SharingRoom", "fault", "(III)V"⟩ ∈ jWS := jm 672 rfl rfl
set_option maxRecDepth 100000 in
theorem w673 : Cond.code ⟨"SharingRoom", "fault", "(III)V"⟩ prog_1_method_8_code 4 none ∈ jWS := jm 673 rfl rfl
theorem L0_SR_fault : jL0 y_SR_fault m_SR_fault 3 := ⟨w673, w63, ⟨by decide +kernel, by decide +kernel⟩, by decide +kernel, by decide +kernel⟩
set_option maxRecDepth 100000 in
theorem w695 : Cond.methodLink "SharingRoomLaw" 36 ⟨"SharingRoom", "crash", "(II)V"⟩ ∈ jWS := jm 695 rfl rfl
set_option maxRecDepth 100000 in
theorem w696 : Cond.instanceMethod ⟨"SharingRoom", "crash", "(II)V"⟩ ∈ jWS := jm 696 rfl rfl
set_option maxRecDepth 100000 in
theorem w697 : Cond.selects "SharingRoom" ⟨"SharingRoom", "crash", "(II)V"⟩ ⟨"SharingRoom", "crash", "(II)V"⟩ ∈ jWS := jm 697 rfl rfl
set_option maxRecDepth 100000 in
theorem w698 : Cond.code ⟨"SharingRoom", "crash", "(II)V"⟩ prog_1_method_9_code 3 none ∈ jWS := jm 698 rfl rfl
theorem L0_SR_crash : jL0 y_SR_crash m_SR_crash 2 := ⟨w698, w63, ⟨by decide +kernel, by decide +kernel⟩, by decide +kernel, by decide +kernel⟩
set_option maxRecDepth 100000 in
theorem w707 : Cond.methodLink "SharingRoomLaw" 40 ⟨"SharingRoom", "next", "()I"⟩ ∈ jWS := jm 707 rfl rfl
set_option maxRecDepth 100000 in
theorem w708 : Cond.instanceMethod ⟨"SharingRoom", "next", "()I"⟩ ∈ jWS := jm 708 rfl rfl
set_option maxRecDepth 100000 in
theorem w709 : Cond.selects "SharingRoom" ⟨"SharingRoom", "next", "()I"⟩ ⟨"SharingRoom", "next", "()I"⟩ ∈ jWS := jm 709 rfl rfl
set_option maxRecDepth 100000 in
theorem w710 : Cond.code ⟨"SharingRoom", "next", "()I"⟩ prog_1_method_10_code 1 (some FieldType.int) ∈ jWS := jm 710 rfl rfl
theorem L0_SR_next : jL0 y_SR_next m_SR_next 0 := ⟨w710, w63, ⟨by decide +kernel, by decide +kernel⟩, by decide +kernel, by decide +kernel⟩
set_option maxRecDepth 100000 in
theorem w872 : Cond.methodLink "SharingRoomLaw" 44 ⟨"SharingRoom", "complaints", "(I)I"⟩ ∈ jWS := jm 872 rfl rfl
set_option maxRecDepth 100000 in
theorem w873 : Cond.instanceMethod ⟨"SharingRoom", "complaints", "(I)I"⟩ ∈ jWS := jm 873 rfl rfl
set_option maxRecDepth 100000 in
theorem w874 : Cond.selects "SharingRoom" ⟨"SharingRoom", "complaints", "(I)I"⟩ ⟨"SharingRoom", "complaints", "(I)I"⟩ ∈ jWS := jm 874 rfl rfl
set_option maxRecDepth 100000 in
theorem w875 : Cond.code ⟨"SharingRoom", "complaints", "(I)I"⟩ prog_1_method_13_code 2 (some FieldType.int) ∈ jWS := jm 875 rfl rfl
theorem L0_SR_complaints : jL0 y_SR_complaints m_SR_complaints 1 := ⟨w875, w63, ⟨by decide +kernel, by decide +kernel⟩, by decide +kernel, by decide +kernel⟩
set_option maxRecDepth 100000 in
theorem w883 : Cond.methodLink "SharingRoomLaw" 47 ⟨"SharingRoom", "received", "(III)I"⟩ ∈ jWS := jm 883 rfl rfl
set_option maxRecDepth 100000 in
theorem w884 : Cond.instanceMethod ⟨"SharingRoom", "received", "(III)I"⟩ ∈ jWS := jm 884 rfl rfl
set_option maxRecDepth 100000 in
theorem w885 : Cond.selects "SharingRoom" ⟨"SharingRoom", "received", "(III)I"⟩ ⟨"SharingRoom", "received", "(III)I"⟩ ∈ jWS := jm 885 rfl rfl
set_option maxRecDepth 100000 in
theorem w886 : Cond.code ⟨"SharingRoom", "received", "(III)I"⟩ prog_1_method_14_code 4 (some FieldType.int) ∈ jWS := jm 886 rfl rfl
theorem L0_SR_received : jL0 y_SR_received m_SR_received 3 := ⟨w886, w63, ⟨by decide +kernel, by decide +kernel⟩, by decide +kernel, by decide +kernel⟩
set_option maxRecDepth 100000 in
theorem w894 : Cond.methodLink "SharingRoomLaw" 51 ⟨"SharingRoom", "commitment", "(III)I"⟩ ∈ jWS := jm 894 rfl rfl
set_option maxRecDepth 100000 in
theorem w895 : Cond.instanceMethod ⟨"SharingRoom", "commitment", "(III)I"⟩ ∈ jWS := jm 895 rfl rfl
set_option maxRecDepth 100000 in
theorem w896 : Cond.selects "SharingRoom" ⟨"SharingRoom", "commitment", "(III)I"⟩ ⟨"SharingRoom", "commitment", "(III)I"⟩ ∈ jWS := jm 896 rfl rfl
set_option maxRecDepth 100000 in
theorem w897 : Cond.code ⟨"SharingRoom", "commitment", "(III)I"⟩ prog_1_method_15_code 4 (some FieldType.int) ∈ jWS := jm 897 rfl rfl
theorem L0_SR_commitment : jL0 y_SR_commitment m_SR_commitment 3 := ⟨w897, w63, ⟨by decide +kernel, by decide +kernel⟩, by decide +kernel, by decide +kernel⟩
set_option maxRecDepth 100000 in
theorem w905 : Cond.methodLink "SharingRoomLaw" 54 ⟨"SharingRoom", "share", "(II)I"⟩ ∈ jWS := jm 905 rfl rfl
set_option maxRecDepth 100000 in
theorem w906 : Cond.instanceMethod ⟨"SharingRoom", "share", "(II)I"⟩ ∈ jWS := jm 906 rfl rfl
set_option maxRecDepth 100000 in
theorem w907 : Cond.selects "SharingRoom" ⟨"SharingRoom", "share", "(II)I"⟩ ⟨"SharingRoom", "share", "(II)I"⟩ ∈ jWS := jm 907 rfl rfl
set_option maxRecDepth 100000 in
theorem w908 : Cond.code ⟨"SharingRoom", "share", "(II)I"⟩ prog_1_method_16_code 3 (some FieldType.int) ∈ jWS := jm 908 rfl rfl
theorem L0_SR_share : jL0 y_SR_share m_SR_share 2 := ⟨w908, w63, ⟨by decide +kernel, by decide +kernel⟩, by decide +kernel, by decide +kernel⟩
set_option maxRecDepth 100000 in
theorem w917 : Cond.methodLink "SharingRoomLaw" 57 ⟨"SharingRoom", "told", "(I)I"⟩ ∈ jWS := jm 917 rfl rfl
set_option maxRecDepth 100000 in
theorem w918 : Cond.instanceMethod ⟨"SharingRoom", "told", "(I)I"⟩ ∈ jWS := jm 918 rfl rfl
set_option maxRecDepth 100000 in
theorem w919 : Cond.selects "SharingRoom" ⟨"SharingRoom", "told", "(I)I"⟩ ⟨"SharingRoom", "told", "(I)I"⟩ ∈ jWS := jm 919 rfl rfl
set_option maxRecDepth 100000 in
theorem w920 : Cond.code ⟨"SharingRoom", "told", "(I)I"⟩ prog_1_method_18_code 2 (some FieldType.int) ∈ jWS := jm 920 rfl rfl
theorem L0_SR_told : jL0 y_SR_told m_SR_told 1 := ⟨w920, w63, ⟨by decide +kernel, by decide +kernel⟩, by decide +kernel, by decide +kernel⟩
set_option maxRecDepth 100000 in
theorem wt923 : Cond.castable "java/lang/IndexOutOfBoundsException" "java/lang/IndexOutOfBoundsException" ∈ lw_tbl := List.mem_of_getElem? (i := 923) rfl
set_option maxRecDepth 100000 in
theorem wt916 : Cond.classLink "SharingRoomLaw" 60 "java/lang/IndexOutOfBoundsException" ∈ lw_tbl := List.mem_of_getElem? (i := 916) rfl
set_option maxRecDepth 100000 in
theorem w944 : Cond.methodLink "SharingRoomLaw" 62 ⟨"SharingRoom", "digest", "(I)I"⟩ ∈ jWS := jm 944 rfl rfl
set_option maxRecDepth 100000 in
theorem w945 : Cond.instanceMethod ⟨"SharingRoom", "digest", "(I)I"⟩ ∈ jWS := jm 945 rfl rfl
set_option maxRecDepth 100000 in
theorem w946 : Cond.selects "SharingRoom" ⟨"SharingRoom", "digest", "(I)I"⟩ ⟨"SharingRoom", "digest", "(I)I"⟩ ∈ jWS := jm 946 rfl rfl
set_option maxRecDepth 100000 in
theorem w947 : Cond.code ⟨"SharingRoom", "digest", "(I)I"⟩ prog_1_method_19_code 2 (some FieldType.int) ∈ jWS := jm 947 rfl rfl
theorem L0_SR_digest : jL0 y_SR_digest m_SR_digest 1 := ⟨w947, w63, ⟨by decide +kernel, by decide +kernel⟩, by decide +kernel, by decide +kernel⟩
set_option maxRecDepth 100000 in
theorem w979 : Cond.methodLink "SharingRoomLaw" 65 ⟨"SharingRoom", "recover", "(I)I"⟩ ∈ jWS := jm 979 rfl rfl
set_option maxRecDepth 100000 in
theorem w980 : Cond.instanceMethod ⟨"SharingRoom", "recover", "(I)I"⟩ ∈ jWS := jm 980 rfl rfl
set_option maxRecDepth 100000 in
theorem w981 : Cond.selects "SharingRoom" ⟨"SharingRoom", "recover", "(I)I"⟩ ⟨"SharingRoom", "recover", "(I)I"⟩ ∈ jWS := jm 981 rfl rfl
set_option maxRecDepth 100000 in
theorem w982 : Cond.code ⟨"SharingRoom", "recover", "(I)I"⟩ prog_1_method_21_code 2 (some FieldType.int) ∈ jWS := jm 982 rfl rfl
theorem L0_SR_recover : jL0 y_SR_recover m_SR_recover 1 := ⟨w982, w63, ⟨by decide +kernel, by decide +kernel⟩, by decide +kernel, by decide +kernel⟩
set_option maxRecDepth 100000 in
theorem w1008 : Cond.methodLink "SharingRoomLaw" 68 ⟨"SharingRoom", "refresh", "()V"⟩ ∈ jWS := jm 1008 rfl rfl
set_option maxRecDepth 100000 in
theorem w1009 : Cond.instanceMethod ⟨"SharingRoom", "refresh", "()V"⟩ ∈ jWS := jm 1009 rfl rfl
set_option maxRecDepth 100000 in
theorem w1010 : Cond.selects "SharingRoom" ⟨"SharingRoom", "refresh", "()V"⟩ ⟨"SharingRoom", "refresh", "()V"⟩ ∈ jWS := jm 1010 rfl rfl
set_option maxRecDepth 100000 in
theorem w1011 : Cond.code ⟨"SharingRoom", "refresh", "()V"⟩ prog_1_method_22_code 1 none ∈ jWS := jm 1011 rfl rfl
theorem L0_SR_refresh : jL0 y_SR_refresh m_SR_refresh 0 := ⟨w1011, w63, ⟨by decide +kernel, by decide +kernel⟩, by decide +kernel, by decide +kernel⟩
set_option maxRecDepth 100000 in
theorem w1028 : Cond.methodLink "SharingRoomLaw" 71 ⟨"SharingRoom", "handOn", "(III)V"⟩ ∈ jWS := jm 1028 rfl rfl
set_option maxRecDepth 100000 in
theorem w1029 : Cond.instanceMethod ⟨"SharingRoom", "handOn", "(III)V"⟩ ∈ jWS := jm 1029 rfl rfl
set_option maxRecDepth 100000 in
theorem w1030 : Cond.selects "SharingRoom" ⟨"SharingRoom", "handOn", "(III)V"⟩ ⟨"SharingRoom", "handOn", "(III)V"⟩ ∈ jWS := jm 1030 rfl rfl
set_option maxRecDepth 100000 in
theorem w1031 : Cond.code ⟨"SharingRoom", "handOn", "(III)V"⟩ prog_1_method_23_code 4 none ∈ jWS := jm 1031 rfl rfl
theorem L0_SR_handOn : jL0 y_SR_handOn m_SR_handOn 3 := ⟨w1031, w63, ⟨by decide +kernel, by decide +kernel⟩, by decide +kernel, by decide +kernel⟩
