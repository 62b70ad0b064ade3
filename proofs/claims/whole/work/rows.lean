section
-- ===== PART A: goes FIRST, ahead of the names: the tables' words, and 'selects' of the private methods out of them =====
/-- a private method of a class that the tables say can be made, by its rows of tables_1 -/
def lw_okq (q : MethodName × Nat) : Prop := (q.1.cls ≠ "java/lang/invoke/MethodHandle" ∧ q.1.cls ≠ "java/lang/invoke/VarHandle") ∧ Cond.instantiable q.1.cls q.2 ∈ tables_1 ∧ Cond.privateMethod q.1 ∈ tables_1 ∧ Cond.instanceMethod q.1 ∈ tables_1
theorem lw_p0 : lw_okq (⟨"GuardFigures", "renew", "(LGuardFigures$Row;II)I"⟩, 17) := ⟨⟨by decide +kernel, by decide +kernel⟩, List.mem_of_getElem? (i := 13) (by decide +kernel), List.mem_of_getElem? (i := 212) (by decide +kernel), List.mem_of_getElem? (i := 213) (by decide +kernel)⟩
theorem lw_p1 : lw_okq (⟨"GuardFigures", "found", "(I)I"⟩, 17) := ⟨⟨by decide +kernel, by decide +kernel⟩, List.mem_of_getElem? (i := 13) (by decide +kernel), List.mem_of_getElem? (i := 216) (by decide +kernel), List.mem_of_getElem? (i := 217) (by decide +kernel)⟩
theorem lw_p2 : lw_okq (⟨"GuardFigures", "refusedPlace", "(II)I"⟩, 17) := ⟨⟨by decide +kernel, by decide +kernel⟩, List.mem_of_getElem? (i := 13) (by decide +kernel), List.mem_of_getElem? (i := 231) (by decide +kernel), List.mem_of_getElem? (i := 232) (by decide +kernel)⟩
theorem lw_p3 : lw_okq (⟨"GuardFigures", "tell", "(I)I"⟩, 17) := ⟨⟨by decide +kernel, by decide +kernel⟩, List.mem_of_getElem? (i := 13) (by decide +kernel), List.mem_of_getElem? (i := 247) (by decide +kernel), List.mem_of_getElem? (i := 248) (by decide +kernel)⟩
theorem lw_p4 : lw_okq (⟨"GuardFigures$Reader", "readGuard", "(LGuardFigures$Row;I)I"⟩, 2) := ⟨⟨by decide +kernel, by decide +kernel⟩, List.mem_of_getElem? (i := 95) (by decide +kernel), List.mem_of_getElem? (i := 290) (by decide +kernel), List.mem_of_getElem? (i := 291) (by decide +kernel)⟩
theorem lw_p5 : lw_okq (⟨"GuardFigures", "isGuard", "(I)Z"⟩, 17) := ⟨⟨by decide +kernel, by decide +kernel⟩, List.mem_of_getElem? (i := 13) (by decide +kernel), List.mem_of_getElem? (i := 316) (by decide +kernel), List.mem_of_getElem? (i := 317) (by decide +kernel)⟩
theorem lw_p6 : lw_okq (⟨"GuardFigures", "ofGuard", "(II)I"⟩, 17) := ⟨⟨by decide +kernel, by decide +kernel⟩, List.mem_of_getElem? (i := 13) (by decide +kernel), List.mem_of_getElem? (i := 320) (by decide +kernel), List.mem_of_getElem? (i := 321) (by decide +kernel)⟩
theorem lw_p7 : lw_okq (⟨"GuardFigures", "reckoned", "(LGuardFigures$Guard;)I"⟩, 17) := ⟨⟨by decide +kernel, by decide +kernel⟩, List.mem_of_getElem? (i := 13) (by decide +kernel), List.mem_of_getElem? (i := 324) (by decide +kernel), List.mem_of_getElem? (i := 325) (by decide +kernel)⟩
theorem lw_p8 : lw_okq (⟨"GuardFigures$Guard", "weight", "(I)I"⟩, 3) := ⟨⟨by decide +kernel, by decide +kernel⟩, List.mem_of_getElem? (i := 43) (by decide +kernel), List.mem_of_getElem? (i := 336) (by decide +kernel), List.mem_of_getElem? (i := 337) (by decide +kernel)⟩
theorem lw_p9 : lw_okq (⟨"GuardFigures$Watch", "listThings", "(LGuardFigures$Writing;)V"⟩, 6) := ⟨⟨by decide +kernel, by decide +kernel⟩, List.mem_of_getElem? (i := 112) (by decide +kernel), List.mem_of_getElem? (i := 351) (by decide +kernel), List.mem_of_getElem? (i := 352) (by decide +kernel)⟩
theorem lw_p10 : lw_okq (⟨"GuardFigures$Watch", "list", "(I)V"⟩, 6) := ⟨⟨by decide +kernel, by decide +kernel⟩, List.mem_of_getElem? (i := 112) (by decide +kernel), List.mem_of_getElem? (i := 355) (by decide +kernel), List.mem_of_getElem? (i := 356) (by decide +kernel)⟩
theorem lw_p11 : lw_okq (⟨"GuardFigures$Watch", "listExchanges", "(LGuardFigures$Writing;I)V"⟩, 6) := ⟨⟨by decide +kernel, by decide +kernel⟩, List.mem_of_getElem? (i := 112) (by decide +kernel), List.mem_of_getElem? (i := 359) (by decide +kernel), List.mem_of_getElem? (i := 360) (by decide +kernel)⟩
theorem lw_p12 : lw_okq (⟨"GuardFigures$Watch", "copyWith", "(ILGuardFigures$Writing;)V"⟩, 6) := ⟨⟨by decide +kernel, by decide +kernel⟩, List.mem_of_getElem? (i := 112) (by decide +kernel), List.mem_of_getElem? (i := 364) (by decide +kernel), List.mem_of_getElem? (i := 365) (by decide +kernel)⟩
theorem lw_p13 : lw_okq (⟨"GuardFigures$Watch", "startOf", "(I)I"⟩, 6) := ⟨⟨by decide +kernel, by decide +kernel⟩, List.mem_of_getElem? (i := 112) (by decide +kernel), List.mem_of_getElem? (i := 376) (by decide +kernel), List.mem_of_getElem? (i := 377) (by decide +kernel)⟩
theorem lw_p14 : lw_okq (⟨"GuardFigures$Watch", "isNoticed", "(II)Z"⟩, 6) := ⟨⟨by decide +kernel, by decide +kernel⟩, List.mem_of_getElem? (i := 112) (by decide +kernel), List.mem_of_getElem? (i := 380) (by decide +kernel), List.mem_of_getElem? (i := 381) (by decide +kernel)⟩
theorem lw_p15 : lw_okq (⟨"GuardFigures", "tellUnseen", "(II)I"⟩, 17) := ⟨⟨by decide +kernel, by decide +kernel⟩, List.mem_of_getElem? (i := 13) (by decide +kernel), List.mem_of_getElem? (i := 456) (by decide +kernel), List.mem_of_getElem? (i := 457) (by decide +kernel)⟩
def lw_privs_1 : List (MethodName × Nat) := [(⟨"GuardFigures", "renew", "(LGuardFigures$Row;II)I"⟩, 17), (⟨"GuardFigures", "found", "(I)I"⟩, 17), (⟨"GuardFigures", "refusedPlace", "(II)I"⟩, 17), (⟨"GuardFigures", "tell", "(I)I"⟩, 17), (⟨"GuardFigures$Reader", "readGuard", "(LGuardFigures$Row;I)I"⟩, 2), (⟨"GuardFigures", "isGuard", "(I)Z"⟩, 17), (⟨"GuardFigures", "ofGuard", "(II)I"⟩, 17), (⟨"GuardFigures", "reckoned", "(LGuardFigures$Guard;)I"⟩, 17), (⟨"GuardFigures$Guard", "weight", "(I)I"⟩, 3), (⟨"GuardFigures$Watch", "listThings", "(LGuardFigures$Writing;)V"⟩, 6), (⟨"GuardFigures$Watch", "list", "(I)V"⟩, 6), (⟨"GuardFigures$Watch", "listExchanges", "(LGuardFigures$Writing;I)V"⟩, 6), (⟨"GuardFigures$Watch", "copyWith", "(ILGuardFigures$Writing;)V"⟩, 6), (⟨"GuardFigures$Watch", "startOf", "(I)I"⟩, 6), (⟨"GuardFigures$Watch", "isNoticed", "(II)Z"⟩, 6), (⟨"GuardFigures", "tellUnseen", "(II)I"⟩, 17)]
theorem lw_r1 : ∀ q ∈ lw_privs_1, lw_okq q := List.forall_mem_cons.mpr ⟨lw_p0, List.forall_mem_cons.mpr ⟨lw_p1, List.forall_mem_cons.mpr ⟨lw_p2, List.forall_mem_cons.mpr ⟨lw_p3, List.forall_mem_cons.mpr ⟨lw_p4, List.forall_mem_cons.mpr ⟨lw_p5, List.forall_mem_cons.mpr ⟨lw_p6, List.forall_mem_cons.mpr ⟨lw_p7, List.forall_mem_cons.mpr ⟨lw_p8, List.forall_mem_cons.mpr ⟨lw_p9, List.forall_mem_cons.mpr ⟨lw_p10, List.forall_mem_cons.mpr ⟨lw_p11, List.forall_mem_cons.mpr ⟨lw_p12, List.forall_mem_cons.mpr ⟨lw_p13, List.forall_mem_cons.mpr ⟨lw_p14, List.forall_mem_cons.mpr ⟨lw_p15, fun _ h => absurd h List.not_mem_nil⟩⟩⟩⟩⟩⟩⟩⟩⟩⟩⟩⟩⟩⟩⟩⟩
theorem lw_p16 : lw_okq (⟨"GuardFigures", "reckonedWith", "(LGuardFigures$Guard;I)I"⟩, 17) := ⟨⟨by decide +kernel, by decide +kernel⟩, List.mem_of_getElem? (i := 13) (by decide +kernel), List.mem_of_getElem? (i := 502) (by decide +kernel), List.mem_of_getElem? (i := 503) (by decide +kernel)⟩
theorem lw_p17 : lw_okq (⟨"GuardFigures$Outlook", "endWithCheck", "(LGuardFigures$Guard;IIII)V"⟩, 2) := ⟨⟨by decide +kernel, by decide +kernel⟩, List.mem_of_getElem? (i := 138) (by decide +kernel), List.mem_of_getElem? (i := 514) (by decide +kernel), List.mem_of_getElem? (i := 515) (by decide +kernel)⟩
theorem lw_p18 : lw_okq (⟨"GuardFigures$Outlook", "keepValue", "(IIJ)V"⟩, 2) := ⟨⟨by decide +kernel, by decide +kernel⟩, List.mem_of_getElem? (i := 138) (by decide +kernel), List.mem_of_getElem? (i := 519) (by decide +kernel), List.mem_of_getElem? (i := 520) (by decide +kernel)⟩
theorem lw_p19 : lw_okq (⟨"GuardFigures$Outlook", "othersWith", "(LGuardFigures$Guard;LGuardFigures$Writing;III)J"⟩, 2) := ⟨⟨by decide +kernel, by decide +kernel⟩, List.mem_of_getElem? (i := 138) (by decide +kernel), List.mem_of_getElem? (i := 525) (by decide +kernel), List.mem_of_getElem? (i := 526) (by decide +kernel)⟩
theorem lw_p20 : lw_okq (⟨"GuardFigures$Outlook", "valueOf", "(II)J"⟩, 2) := ⟨⟨by decide +kernel, by decide +kernel⟩, List.mem_of_getElem? (i := 138) (by decide +kernel), List.mem_of_getElem? (i := 530) (by decide +kernel), List.mem_of_getElem? (i := 531) (by decide +kernel)⟩
theorem lw_p21 : lw_okq (⟨"GuardFigures$Outlook", "waysWith", "(LGuardFigures$Guard;LGuardFigures$Row;III)J"⟩, 2) := ⟨⟨by decide +kernel, by decide +kernel⟩, List.mem_of_getElem? (i := 138) (by decide +kernel), List.mem_of_getElem? (i := 548) (by decide +kernel), List.mem_of_getElem? (i := 549) (by decide +kernel)⟩
theorem lw_p22 : lw_okq (⟨"GuardFigures", "refusedExample", "(LGuardFigures$Row;)I"⟩, 17) := ⟨⟨by decide +kernel, by decide +kernel⟩, List.mem_of_getElem? (i := 13) (by decide +kernel), List.mem_of_getElem? (i := 556) (by decide +kernel), List.mem_of_getElem? (i := 557) (by decide +kernel)⟩
theorem lw_p23 : lw_okq (⟨"GuardFigures", "kindsBy", "(LGuardFigures$Guard;LGuardFigures$Row;)I"⟩, 17) := ⟨⟨by decide +kernel, by decide +kernel⟩, List.mem_of_getElem? (i := 13) (by decide +kernel), List.mem_of_getElem? (i := 560) (by decide +kernel), List.mem_of_getElem? (i := 561) (by decide +kernel)⟩
theorem lw_p24 : lw_okq (⟨"GuardFigures", "greatestPart", "(LGuardFigures$Guard;II)I"⟩, 17) := ⟨⟨by decide +kernel, by decide +kernel⟩, List.mem_of_getElem? (i := 13) (by decide +kernel), List.mem_of_getElem? (i := 575) (by decide +kernel), List.mem_of_getElem? (i := 576) (by decide +kernel)⟩
theorem lw_p25 : lw_okq (⟨"GuardFigures$Outlook", "endWithReckoned", "(LGuardFigures$Guard;I)V"⟩, 2) := ⟨⟨by decide +kernel, by decide +kernel⟩, List.mem_of_getElem? (i := 138) (by decide +kernel), List.mem_of_getElem? (i := 591) (by decide +kernel), List.mem_of_getElem? (i := 592) (by decide +kernel)⟩
theorem lw_p26 : lw_okq (⟨"GuardFigures$Outlook", "afterBestFigure", "(LGuardFigures$Guard;IIIZ)J"⟩, 2) := ⟨⟨by decide +kernel, by decide +kernel⟩, List.mem_of_getElem? (i := 138) (by decide +kernel), List.mem_of_getElem? (i := 595) (by decide +kernel), List.mem_of_getElem? (i := 596) (by decide +kernel)⟩
theorem lw_p27 : lw_okq (⟨"GuardFigures$Outlook", "overCopies", "(LGuardFigures$Guard;LGuardFigures$Writing;I)J"⟩, 2) := ⟨⟨by decide +kernel, by decide +kernel⟩, List.mem_of_getElem? (i := 138) (by decide +kernel), List.mem_of_getElem? (i := 611) (by decide +kernel), List.mem_of_getElem? (i := 612) (by decide +kernel)⟩
theorem lw_p28 : lw_okq (⟨"GuardFigures", "tellShare", "(J)I"⟩, 17) := ⟨⟨by decide +kernel, by decide +kernel⟩, List.mem_of_getElem? (i := 13) (by decide +kernel), List.mem_of_getElem? (i := 618) (by decide +kernel), List.mem_of_getElem? (i := 619) (by decide +kernel)⟩
theorem lw_p29 : lw_okq (⟨"GuardFigures", "counted", "(I)I"⟩, 17) := ⟨⟨by decide +kernel, by decide +kernel⟩, List.mem_of_getElem? (i := 13) (by decide +kernel), List.mem_of_getElem? (i := 663) (by decide +kernel), List.mem_of_getElem? (i := 664) (by decide +kernel)⟩
theorem lw_p30 : lw_okq (⟨"GuardFigures", "reckonedTogether", "()I"⟩, 17) := ⟨⟨by decide +kernel, by decide +kernel⟩, List.mem_of_getElem? (i := 13) (by decide +kernel), List.mem_of_getElem? (i := 670) (by decide +kernel), List.mem_of_getElem? (i := 671) (by decide +kernel)⟩
theorem lw_p31 : lw_okq (⟨"GuardFigures", "noticingAllSlips", "()I"⟩, 17) := ⟨⟨by decide +kernel, by decide +kernel⟩, List.mem_of_getElem? (i := 13) (by decide +kernel), List.mem_of_getElem? (i := 674) (by decide +kernel), List.mem_of_getElem? (i := 675) (by decide +kernel)⟩
def lw_privs_2 : List (MethodName × Nat) := [(⟨"GuardFigures", "reckonedWith", "(LGuardFigures$Guard;I)I"⟩, 17), (⟨"GuardFigures$Outlook", "endWithCheck", "(LGuardFigures$Guard;IIII)V"⟩, 2), (⟨"GuardFigures$Outlook", "keepValue", "(IIJ)V"⟩, 2), (⟨"GuardFigures$Outlook", "othersWith", "(LGuardFigures$Guard;LGuardFigures$Writing;III)J"⟩, 2), (⟨"GuardFigures$Outlook", "valueOf", "(II)J"⟩, 2), (⟨"GuardFigures$Outlook", "waysWith", "(LGuardFigures$Guard;LGuardFigures$Row;III)J"⟩, 2), (⟨"GuardFigures", "refusedExample", "(LGuardFigures$Row;)I"⟩, 17), (⟨"GuardFigures", "kindsBy", "(LGuardFigures$Guard;LGuardFigures$Row;)I"⟩, 17), (⟨"GuardFigures", "greatestPart", "(LGuardFigures$Guard;II)I"⟩, 17), (⟨"GuardFigures$Outlook", "endWithReckoned", "(LGuardFigures$Guard;I)V"⟩, 2), (⟨"GuardFigures$Outlook", "afterBestFigure", "(LGuardFigures$Guard;IIIZ)J"⟩, 2), (⟨"GuardFigures$Outlook", "overCopies", "(LGuardFigures$Guard;LGuardFigures$Writing;I)J"⟩, 2), (⟨"GuardFigures", "tellShare", "(J)I"⟩, 17), (⟨"GuardFigures", "counted", "(I)I"⟩, 17), (⟨"GuardFigures", "reckonedTogether", "()I"⟩, 17), (⟨"GuardFigures", "noticingAllSlips", "()I"⟩, 17)]
theorem lw_r2 : ∀ q ∈ lw_privs_2, lw_okq q := List.forall_mem_cons.mpr ⟨lw_p16, List.forall_mem_cons.mpr ⟨lw_p17, List.forall_mem_cons.mpr ⟨lw_p18, List.forall_mem_cons.mpr ⟨lw_p19, List.forall_mem_cons.mpr ⟨lw_p20, List.forall_mem_cons.mpr ⟨lw_p21, List.forall_mem_cons.mpr ⟨lw_p22, List.forall_mem_cons.mpr ⟨lw_p23, List.forall_mem_cons.mpr ⟨lw_p24, List.forall_mem_cons.mpr ⟨lw_p25, List.forall_mem_cons.mpr ⟨lw_p26, List.forall_mem_cons.mpr ⟨lw_p27, List.forall_mem_cons.mpr ⟨lw_p28, List.forall_mem_cons.mpr ⟨lw_p29, List.forall_mem_cons.mpr ⟨lw_p30, List.forall_mem_cons.mpr ⟨lw_p31, fun _ h => absurd h List.not_mem_nil⟩⟩⟩⟩⟩⟩⟩⟩⟩⟩⟩⟩⟩⟩⟩⟩
theorem lw_p32 : lw_okq (⟨"GuardFigures", "keptCount", "()I"⟩, 17) := ⟨⟨by decide +kernel, by decide +kernel⟩, List.mem_of_getElem? (i := 13) (by decide +kernel), List.mem_of_getElem? (i := 681) (by decide +kernel), List.mem_of_getElem? (i := 682) (by decide +kernel)⟩
theorem lw_p33 : lw_okq (⟨"GuardFigures", "howManyAre", "(I)I"⟩, 17) := ⟨⟨by decide +kernel, by decide +kernel⟩, List.mem_of_getElem? (i := 13) (by decide +kernel), List.mem_of_getElem? (i := 685) (by decide +kernel), List.mem_of_getElem? (i := 686) (by decide +kernel)⟩
theorem lw_p34 : lw_okq (⟨"GuardFiguresModel", "find", "(I)I"⟩, 26) := ⟨⟨by decide +kernel, by decide +kernel⟩, List.mem_of_getElem? (i := 708) (by decide +kernel), List.mem_of_getElem? (i := 805) (by decide +kernel), List.mem_of_getElem? (i := 806) (by decide +kernel)⟩
theorem lw_p35 : lw_okq (⟨"GuardFiguresModel", "lacksPlace", "(II)I"⟩, 26) := ⟨⟨by decide +kernel, by decide +kernel⟩, List.mem_of_getElem? (i := 708) (by decide +kernel), List.mem_of_getElem? (i := 813) (by decide +kernel), List.mem_of_getElem? (i := 814) (by decide +kernel)⟩
theorem lw_p36 : lw_okq (⟨"GuardFiguresModel", "tells", "(I)I"⟩, 26) := ⟨⟨by decide +kernel, by decide +kernel⟩, List.mem_of_getElem? (i := 708) (by decide +kernel), List.mem_of_getElem? (i := 817) (by decide +kernel), List.mem_of_getElem? (i := 818) (by decide +kernel)⟩
theorem lw_p37 : lw_okq (⟨"GuardFiguresModel", "faultOf", "(I)I"⟩, 26) := ⟨⟨by decide +kernel, by decide +kernel⟩, List.mem_of_getElem? (i := 708) (by decide +kernel), List.mem_of_getElem? (i := 853) (by decide +kernel), List.mem_of_getElem? (i := 854) (by decide +kernel)⟩
theorem lw_p38 : lw_okq (⟨"GuardFiguresModel", "nextLetter", "()I"⟩, 26) := ⟨⟨by decide +kernel, by decide +kernel⟩, List.mem_of_getElem? (i := 708) (by decide +kernel), List.mem_of_getElem? (i := 857) (by decide +kernel), List.mem_of_getElem? (i := 858) (by decide +kernel)⟩
theorem lw_p39 : lw_okq (⟨"GuardFiguresModel", "letter", "()I"⟩, 26) := ⟨⟨by decide +kernel, by decide +kernel⟩, List.mem_of_getElem? (i := 708) (by decide +kernel), List.mem_of_getElem? (i := 861) (by decide +kernel), List.mem_of_getElem? (i := 862) (by decide +kernel)⟩
theorem lw_p40 : lw_okq (⟨"GuardFiguresModel", "readGuard", "()Z"⟩, 26) := ⟨⟨by decide +kernel, by decide +kernel⟩, List.mem_of_getElem? (i := 708) (by decide +kernel), List.mem_of_getElem? (i := 865) (by decide +kernel), List.mem_of_getElem? (i := 866) (by decide +kernel)⟩
theorem lw_p41 : lw_okq (⟨"GuardFiguresModel", "faults", "()Z"⟩, 26) := ⟨⟨by decide +kernel, by decide +kernel⟩, List.mem_of_getElem? (i := 708) (by decide +kernel), List.mem_of_getElem? (i := 872) (by decide +kernel), List.mem_of_getElem? (i := 873) (by decide +kernel)⟩
theorem lw_p42 : lw_okq (⟨"GuardFiguresModel", "takesFigure", "(I)Z"⟩, 26) := ⟨⟨by decide +kernel, by decide +kernel⟩, List.mem_of_getElem? (i := 708) (by decide +kernel), List.mem_of_getElem? (i := 876) (by decide +kernel), List.mem_of_getElem? (i := 877) (by decide +kernel)⟩
theorem lw_p43 : lw_okq (⟨"GuardFiguresModel", "isGuard", "(I)Z"⟩, 26) := ⟨⟨by decide +kernel, by decide +kernel⟩, List.mem_of_getElem? (i := 708) (by decide +kernel), List.mem_of_getElem? (i := 890) (by decide +kernel), List.mem_of_getElem? (i := 891) (by decide +kernel)⟩
theorem lw_p44 : lw_okq (⟨"GuardFiguresModel", "goSlips", "(I)V"⟩, 26) := ⟨⟨by decide +kernel, by decide +kernel⟩, List.mem_of_getElem? (i := 708) (by decide +kernel), List.mem_of_getElem? (i := 894) (by decide +kernel), List.mem_of_getElem? (i := 895) (by decide +kernel)⟩
theorem lw_p45 : lw_okq (⟨"GuardFiguresModel", "now", "(I)I"⟩, 26) := ⟨⟨by decide +kernel, by decide +kernel⟩, List.mem_of_getElem? (i := 708) (by decide +kernel), List.mem_of_getElem? (i := 898) (by decide +kernel), List.mem_of_getElem? (i := 899) (by decide +kernel)⟩
theorem lw_p46 : lw_okq (⟨"GuardFiguresModel", "write", "()V"⟩, 26) := ⟨⟨by decide +kernel, by decide +kernel⟩, List.mem_of_getElem? (i := 708) (by decide +kernel), List.mem_of_getElem? (i := 902) (by decide +kernel), List.mem_of_getElem? (i := 903) (by decide +kernel)⟩
theorem lw_p47 : lw_okq (⟨"GuardFiguresModel", "byGuard", "(I[II)I"⟩, 26) := ⟨⟨by decide +kernel, by decide +kernel⟩, List.mem_of_getElem? (i := 708) (by decide +kernel), List.mem_of_getElem? (i := 906) (by decide +kernel), List.mem_of_getElem? (i := 907) (by decide +kernel)⟩
def lw_privs_3 : List (MethodName × Nat) := [(⟨"GuardFigures", "keptCount", "()I"⟩, 17), (⟨"GuardFigures", "howManyAre", "(I)I"⟩, 17), (⟨"GuardFiguresModel", "find", "(I)I"⟩, 26), (⟨"GuardFiguresModel", "lacksPlace", "(II)I"⟩, 26), (⟨"GuardFiguresModel", "tells", "(I)I"⟩, 26), (⟨"GuardFiguresModel", "faultOf", "(I)I"⟩, 26), (⟨"GuardFiguresModel", "nextLetter", "()I"⟩, 26), (⟨"GuardFiguresModel", "letter", "()I"⟩, 26), (⟨"GuardFiguresModel", "readGuard", "()Z"⟩, 26), (⟨"GuardFiguresModel", "faults", "()Z"⟩, 26), (⟨"GuardFiguresModel", "takesFigure", "(I)Z"⟩, 26), (⟨"GuardFiguresModel", "isGuard", "(I)Z"⟩, 26), (⟨"GuardFiguresModel", "goSlips", "(I)V"⟩, 26), (⟨"GuardFiguresModel", "now", "(I)I"⟩, 26), (⟨"GuardFiguresModel", "write", "()V"⟩, 26), (⟨"GuardFiguresModel", "byGuard", "(I[II)I"⟩, 26)]
theorem lw_r3 : ∀ q ∈ lw_privs_3, lw_okq q := List.forall_mem_cons.mpr ⟨lw_p32, List.forall_mem_cons.mpr ⟨lw_p33, List.forall_mem_cons.mpr ⟨lw_p34, List.forall_mem_cons.mpr ⟨lw_p35, List.forall_mem_cons.mpr ⟨lw_p36, List.forall_mem_cons.mpr ⟨lw_p37, List.forall_mem_cons.mpr ⟨lw_p38, List.forall_mem_cons.mpr ⟨lw_p39, List.forall_mem_cons.mpr ⟨lw_p40, List.forall_mem_cons.mpr ⟨lw_p41, List.forall_mem_cons.mpr ⟨lw_p42, List.forall_mem_cons.mpr ⟨lw_p43, List.forall_mem_cons.mpr ⟨lw_p44, List.forall_mem_cons.mpr ⟨lw_p45, List.forall_mem_cons.mpr ⟨lw_p46, List.forall_mem_cons.mpr ⟨lw_p47, fun _ h => absurd h List.not_mem_nil⟩⟩⟩⟩⟩⟩⟩⟩⟩⟩⟩⟩⟩⟩⟩⟩
theorem lw_p48 : lw_okq (⟨"GuardFiguresModel", "asKind", "(II[II)I"⟩, 26) := ⟨⟨by decide +kernel, by decide +kernel⟩, List.mem_of_getElem? (i := 708) (by decide +kernel), List.mem_of_getElem? (i := 910) (by decide +kernel), List.mem_of_getElem? (i := 911) (by decide +kernel)⟩
theorem lw_p49 : lw_okq (⟨"GuardFiguresModel", "unnoticed", "(III)V"⟩, 26) := ⟨⟨by decide +kernel, by decide +kernel⟩, List.mem_of_getElem? (i := 708) (by decide +kernel), List.mem_of_getElem? (i := 923) (by decide +kernel), List.mem_of_getElem? (i := 924) (by decide +kernel)⟩
theorem lw_p50 : lw_okq (⟨"GuardFiguresModel", "tellUnseen", "()I"⟩, 26) := ⟨⟨by decide +kernel, by decide +kernel⟩, List.mem_of_getElem? (i := 708) (by decide +kernel), List.mem_of_getElem? (i := 927) (by decide +kernel), List.mem_of_getElem? (i := 928) (by decide +kernel)⟩
theorem lw_p51 : lw_okq (⟨"GuardFiguresModel", "goSwaps", "(II)V"⟩, 26) := ⟨⟨by decide +kernel, by decide +kernel⟩, List.mem_of_getElem? (i := 708) (by decide +kernel), List.mem_of_getElem? (i := 935) (by decide +kernel), List.mem_of_getElem? (i := 936) (by decide +kernel)⟩
theorem lw_p52 : lw_okq (⟨"GuardFiguresModel", "exchange", "(II)V"⟩, 26) := ⟨⟨by decide +kernel, by decide +kernel⟩, List.mem_of_getElem? (i := 708) (by decide +kernel), List.mem_of_getElem? (i := 939) (by decide +kernel), List.mem_of_getElem? (i := 940) (by decide +kernel)⟩
theorem lw_p53 : lw_okq (⟨"GuardFiguresModel", "toldOf", "(II)I"⟩, 26) := ⟨⟨by decide +kernel, by decide +kernel⟩, List.mem_of_getElem? (i := 708) (by decide +kernel), List.mem_of_getElem? (i := 952) (by decide +kernel), List.mem_of_getElem? (i := 953) (by decide +kernel)⟩
theorem lw_p54 : lw_okq (⟨"GuardFiguresModel", "slipsOf", "(I)I"⟩, 26) := ⟨⟨by decide +kernel, by decide +kernel⟩, List.mem_of_getElem? (i := 708) (by decide +kernel), List.mem_of_getElem? (i := 956) (by decide +kernel), List.mem_of_getElem? (i := 957) (by decide +kernel)⟩
theorem lw_p55 : lw_okq (⟨"GuardFiguresModel", "note", "()V"⟩, 26) := ⟨⟨by decide +kernel, by decide +kernel⟩, List.mem_of_getElem? (i := 708) (by decide +kernel), List.mem_of_getElem? (i := 979) (by decide +kernel), List.mem_of_getElem? (i := 980) (by decide +kernel)⟩
theorem lw_p56 : lw_okq (⟨"GuardFiguresModel", "append", "(I)V"⟩, 26) := ⟨⟨by decide +kernel, by decide +kernel⟩, List.mem_of_getElem? (i := 708) (by decide +kernel), List.mem_of_getElem? (i := 983) (by decide +kernel), List.mem_of_getElem? (i := 984) (by decide +kernel)⟩
theorem lw_p57 : lw_okq (⟨"GuardFiguresModel", "takeOff", "()V"⟩, 26) := ⟨⟨by decide +kernel, by decide +kernel⟩, List.mem_of_getElem? (i := 708) (by decide +kernel), List.mem_of_getElem? (i := 991) (by decide +kernel), List.mem_of_getElem? (i := 992) (by decide +kernel)⟩
theorem lw_p58 : lw_okq (⟨"GuardFiguresModel", "allUnseen", "(I)I"⟩, 26) := ⟨⟨by decide +kernel, by decide +kernel⟩, List.mem_of_getElem? (i := 708) (by decide +kernel), List.mem_of_getElem? (i := 1020) (by decide +kernel), List.mem_of_getElem? (i := 1021) (by decide +kernel)⟩
theorem lw_p59 : lw_okq (⟨"GuardFiguresModel", "seeAll", "()V"⟩, 26) := ⟨⟨by decide +kernel, by decide +kernel⟩, List.mem_of_getElem? (i := 708) (by decide +kernel), List.mem_of_getElem? (i := 1028) (by decide +kernel), List.mem_of_getElem? (i := 1029) (by decide +kernel)⟩
theorem lw_p60 : lw_okq (⟨"GuardFiguresModel", "seeThing", "()V"⟩, 26) := ⟨⟨by decide +kernel, by decide +kernel⟩, List.mem_of_getElem? (i := 708) (by decide +kernel), List.mem_of_getElem? (i := 1032) (by decide +kernel), List.mem_of_getElem? (i := 1033) (by decide +kernel)⟩
theorem lw_p61 : lw_okq (⟨"GuardFiguresModel", "isCover", "(I)Z"⟩, 26) := ⟨⟨by decide +kernel, by decide +kernel⟩, List.mem_of_getElem? (i := 708) (by decide +kernel), List.mem_of_getElem? (i := 1039) (by decide +kernel), List.mem_of_getElem? (i := 1040) (by decide +kernel)⟩
theorem lw_p62 : lw_okq (⟨"GuardFiguresModel", "leastWith", "(III)I"⟩, 26) := ⟨⟨by decide +kernel, by decide +kernel⟩, List.mem_of_getElem? (i := 708) (by decide +kernel), List.mem_of_getElem? (i := 1055) (by decide +kernel), List.mem_of_getElem? (i := 1056) (by decide +kernel)⟩
theorem lw_p63 : lw_okq (⟨"GuardFiguresModel", "lacksTold", "(I)I"⟩, 26) := ⟨⟨by decide +kernel, by decide +kernel⟩, List.mem_of_getElem? (i := 708) (by decide +kernel), List.mem_of_getElem? (i := 1069) (by decide +kernel), List.mem_of_getElem? (i := 1070) (by decide +kernel)⟩
def lw_privs_4 : List (MethodName × Nat) := [(⟨"GuardFiguresModel", "asKind", "(II[II)I"⟩, 26), (⟨"GuardFiguresModel", "unnoticed", "(III)V"⟩, 26), (⟨"GuardFiguresModel", "tellUnseen", "()I"⟩, 26), (⟨"GuardFiguresModel", "goSwaps", "(II)V"⟩, 26), (⟨"GuardFiguresModel", "exchange", "(II)V"⟩, 26), (⟨"GuardFiguresModel", "toldOf", "(II)I"⟩, 26), (⟨"GuardFiguresModel", "slipsOf", "(I)I"⟩, 26), (⟨"GuardFiguresModel", "note", "()V"⟩, 26), (⟨"GuardFiguresModel", "append", "(I)V"⟩, 26), (⟨"GuardFiguresModel", "takeOff", "()V"⟩, 26), (⟨"GuardFiguresModel", "allUnseen", "(I)I"⟩, 26), (⟨"GuardFiguresModel", "seeAll", "()V"⟩, 26), (⟨"GuardFiguresModel", "seeThing", "()V"⟩, 26), (⟨"GuardFiguresModel", "isCover", "(I)Z"⟩, 26), (⟨"GuardFiguresModel", "leastWith", "(III)I"⟩, 26), (⟨"GuardFiguresModel", "lacksTold", "(I)I"⟩, 26)]
theorem lw_r4 : ∀ q ∈ lw_privs_4, lw_okq q := List.forall_mem_cons.mpr ⟨lw_p48, List.forall_mem_cons.mpr ⟨lw_p49, List.forall_mem_cons.mpr ⟨lw_p50, List.forall_mem_cons.mpr ⟨lw_p51, List.forall_mem_cons.mpr ⟨lw_p52, List.forall_mem_cons.mpr ⟨lw_p53, List.forall_mem_cons.mpr ⟨lw_p54, List.forall_mem_cons.mpr ⟨lw_p55, List.forall_mem_cons.mpr ⟨lw_p56, List.forall_mem_cons.mpr ⟨lw_p57, List.forall_mem_cons.mpr ⟨lw_p58, List.forall_mem_cons.mpr ⟨lw_p59, List.forall_mem_cons.mpr ⟨lw_p60, List.forall_mem_cons.mpr ⟨lw_p61, List.forall_mem_cons.mpr ⟨lw_p62, List.forall_mem_cons.mpr ⟨lw_p63, fun _ h => absurd h List.not_mem_nil⟩⟩⟩⟩⟩⟩⟩⟩⟩⟩⟩⟩⟩⟩⟩⟩
theorem lw_p64 : lw_okq (⟨"GuardFiguresModel", "kindSet", "(II)I"⟩, 26) := ⟨⟨by decide +kernel, by decide +kernel⟩, List.mem_of_getElem? (i := 708) (by decide +kernel), List.mem_of_getElem? (i := 1073) (by decide +kernel), List.mem_of_getElem? (i := 1074) (by decide +kernel)⟩
theorem lw_p65 : lw_okq (⟨"GuardFiguresModel", "partBy", "(III)I"⟩, 26) := ⟨⟨by decide +kernel, by decide +kernel⟩, List.mem_of_getElem? (i := 708) (by decide +kernel), List.mem_of_getElem? (i := 1085) (by decide +kernel), List.mem_of_getElem? (i := 1086) (by decide +kernel)⟩
theorem lw_p66 : lw_okq (⟨"GuardFiguresModel", "weigh", "(IIZ)I"⟩, 26) := ⟨⟨by decide +kernel, by decide +kernel⟩, List.mem_of_getElem? (i := 708) (by decide +kernel), List.mem_of_getElem? (i := 1097) (by decide +kernel), List.mem_of_getElem? (i := 1098) (by decide +kernel)⟩
theorem lw_p67 : lw_okq (⟨"GuardFiguresModel", "tellShare", "(JJ)I"⟩, 26) := ⟨⟨by decide +kernel, by decide +kernel⟩, List.mem_of_getElem? (i := 708) (by decide +kernel), List.mem_of_getElem? (i := 1102) (by decide +kernel), List.mem_of_getElem? (i := 1103) (by decide +kernel)⟩
theorem lw_p68 : lw_okq (⟨"GuardFiguresModel", "allReckon", "()I"⟩, 26) := ⟨⟨by decide +kernel, by decide +kernel⟩, List.mem_of_getElem? (i := 708) (by decide +kernel), List.mem_of_getElem? (i := 1135) (by decide +kernel), List.mem_of_getElem? (i := 1136) (by decide +kernel)⟩
theorem lw_p69 : lw_okq (⟨"GuardFiguresModel", "allNotice", "()I"⟩, 26) := ⟨⟨by decide +kernel, by decide +kernel⟩, List.mem_of_getElem? (i := 708) (by decide +kernel), List.mem_of_getElem? (i := 1139) (by decide +kernel), List.mem_of_getElem? (i := 1140) (by decide +kernel)⟩
theorem lw_p70 : lw_okq (⟨"GuardFiguresModel", "ofKind", "(I)I"⟩, 26) := ⟨⟨by decide +kernel, by decide +kernel⟩, List.mem_of_getElem? (i := 708) (by decide +kernel), List.mem_of_getElem? (i := 1146) (by decide +kernel), List.mem_of_getElem? (i := 1147) (by decide +kernel)⟩
def lw_privs_5 : List (MethodName × Nat) := [(⟨"GuardFiguresModel", "kindSet", "(II)I"⟩, 26), (⟨"GuardFiguresModel", "partBy", "(III)I"⟩, 26), (⟨"GuardFiguresModel", "weigh", "(IIZ)I"⟩, 26), (⟨"GuardFiguresModel", "tellShare", "(JJ)I"⟩, 26), (⟨"GuardFiguresModel", "allReckon", "()I"⟩, 26), (⟨"GuardFiguresModel", "allNotice", "()I"⟩, 26), (⟨"GuardFiguresModel", "ofKind", "(I)I"⟩, 26)]
theorem lw_r5 : ∀ q ∈ lw_privs_5, lw_okq q := List.forall_mem_cons.mpr ⟨lw_p64, List.forall_mem_cons.mpr ⟨lw_p65, List.forall_mem_cons.mpr ⟨lw_p66, List.forall_mem_cons.mpr ⟨lw_p67, List.forall_mem_cons.mpr ⟨lw_p68, List.forall_mem_cons.mpr ⟨lw_p69, List.forall_mem_cons.mpr ⟨lw_p70, fun _ h => absurd h List.not_mem_nil⟩⟩⟩⟩⟩⟩⟩
def lw_privs : List (MethodName × Nat) := lw_privs_1 ++ (lw_privs_2 ++ (lw_privs_3 ++ (lw_privs_4 ++ (lw_privs_5))))
def lw_tbl : List Cond := k2_sels lw_privs ++ tables_1
theorem lw_privs_ok : ∀ q ∈ lw_privs, lw_okq q := by
  show ∀ q ∈ lw_privs_1 ++ (lw_privs_2 ++ (lw_privs_3 ++ (lw_privs_4 ++ (lw_privs_5)))), lw_okq q
  exact List.forall_mem_append.mpr ⟨lw_r1, List.forall_mem_append.mpr ⟨lw_r2, List.forall_mem_append.mpr ⟨lw_r3, List.forall_mem_append.mpr ⟨lw_r4, lw_r5⟩⟩⟩⟩
-- ===== end of PART A; then your names; then what follows =====
end
section
/-! names of the classes, their fields, the methods (printed by wip/whole/gen_names.py) -/
def gf_T0 : u_T := fun k => match k with
  | 0 => ("GuardFigures$Guard", "kind", "I", false)
  | 1 => ("GuardFigures$Guard", "first", "I", false)
  | _ => ("GuardFigures$Guard", "step", "I", false)
def gf_t0 : Nat → FieldType := fun k => match k with
  | 0 => .int
  | 1 => .int
  | _ => .int
theorem gf_nm0 : ∀ a, a < 3 → ∀ b, b < 3 → a ≠ b → (gf_T0 a).2.1 ≠ (gf_T0 b).2.1 := by decide +kernel
theorem gf_ty0 : ∀ k, k < 3 → parseFieldDescriptor (gf_T0 k).2.2.1 = some (gf_t0 k) := by decide +kernel
def gf_T1 : u_T := fun k => match k with
  | 0 => ("GuardFigures$Outlook", "values", "[J", true)
  | _ => ("GuardFigures$Outlook", "least", "I", false)
def gf_t1 : Nat → FieldType := fun k => match k with
  | 0 => .array .long
  | _ => .int
theorem gf_nm1 : ∀ a, a < 2 → ∀ b, b < 2 → a ≠ b → (gf_T1 a).2.1 ≠ (gf_T1 b).2.1 := by decide +kernel
theorem gf_ty1 : ∀ k, k < 2 → parseFieldDescriptor (gf_T1 k).2.2.1 = some (gf_t1 k) := by decide +kernel
def gf_T2 : u_T := fun k => match k with
  | 0 => ("GuardFigures$Reader", "guards", "[LGuardFigures$Guard;", true)
  | _ => ("GuardFigures$Reader", "guardCount", "I", false)
def gf_t2 : Nat → FieldType := fun k => match k with
  | 0 => .array (.object "GuardFigures$Guard")
  | _ => .int
theorem gf_nm2 : ∀ a, a < 2 → ∀ b, b < 2 → a ≠ b → (gf_T2 a).2.1 ≠ (gf_T2 b).2.1 := by decide +kernel
theorem gf_ty2 : ∀ k, k < 2 → parseFieldDescriptor (gf_T2 k).2.2.1 = some (gf_t2 k) := by decide +kernel
def gf_T3 : u_T := fun k => match k with
  | 0 => ("GuardFigures$Row", "places", "[I", true)
  | _ => ("GuardFigures$Row", "size", "I", false)
def gf_t3 : Nat → FieldType := fun k => match k with
  | 0 => .array .int
  | _ => .int
theorem gf_nm3 : ∀ a, a < 2 → ∀ b, b < 2 → a ≠ b → (gf_T3 a).2.1 ≠ (gf_T3 b).2.1 := by decide +kernel
theorem gf_ty3 : ∀ k, k < 2 → parseFieldDescriptor (gf_T3 k).2.2.1 = some (gf_t3 k) := by decide +kernel
def gf_T4 : u_T := fun k => match k with
  | 0 => ("GuardFigures$Watch", "marks", "[I", true)
  | 1 => ("GuardFigures$Watch", "noticedBy", "[I", true)
  | 2 => ("GuardFigures$Watch", "things", "I", false)
  | 3 => ("GuardFigures$Watch", "ends", "[I", true)
  | 4 => ("GuardFigures$Watch", "copied", "[I", true)
  | _ => ("GuardFigures$Watch", "due", "[I", true)
def gf_t4 : Nat → FieldType := fun k => match k with
  | 0 => .array .int
  | 1 => .array .int
  | 2 => .int
  | 3 => .array .int
  | 4 => .array .int
  | _ => .array .int
theorem gf_nm4 : ∀ a, a < 6 → ∀ b, b < 6 → a ≠ b → (gf_T4 a).2.1 ≠ (gf_T4 b).2.1 := by decide +kernel
theorem gf_ty4 : ∀ k, k < 6 → parseFieldDescriptor (gf_T4 k).2.2.1 = some (gf_t4 k) := by decide +kernel
def gf_T5 : u_T := fun k => match k with
  | 0 => ("GuardFigures$Writing", "figures", "[I", true)
  | 1 => ("GuardFigures$Writing", "size", "I", false)
  | 2 => ("GuardFigures$Writing", "deeds", "I", false)
  | 3 => ("GuardFigures$Writing", "before", "[I", true)
  | _ => ("GuardFigures$Writing", "isThere", "Z", false)
def gf_t5 : Nat → FieldType := fun k => match k with
  | 0 => .array .int
  | 1 => .int
  | 2 => .int
  | 3 => .array .int
  | _ => .boolean
theorem gf_nm5 : ∀ a, a < 5 → ∀ b, b < 5 → a ≠ b → (gf_T5 a).2.1 ≠ (gf_T5 b).2.1 := by decide +kernel
theorem gf_ty5 : ∀ k, k < 5 → parseFieldDescriptor (gf_T5 k).2.2.1 = some (gf_t5 k) := by decide +kernel
def gf_T6 : u_T := fun k => match k with
  | 0 => ("GuardFigures", "rows", "[LGuardFigures$Row;", true)
  | 1 => ("GuardFigures", "texts", "[LGuardFigures$Row;", true)
  | 2 => ("GuardFigures", "guards", "[LGuardFigures$Guard;", true)
  | 3 => ("GuardFigures", "guardCount", "I", false)
  | 4 => ("GuardFigures", "number", "LGuardFigures$Writing;", true)
  | 5 => ("GuardFigures", "kept", "[LGuardFigures$Writing;", true)
  | 6 => ("GuardFigures", "reader", "LGuardFigures$Reader;", true)
  | 7 => ("GuardFigures", "watch", "LGuardFigures$Watch;", true)
  | 8 => ("GuardFigures", "outlook", "LGuardFigures$Outlook;", true)
  | 9 => ("GuardFigures", "alike", "LGuardFigures$Guard;", true)
  | 10 => ("GuardFigures", "scratch", "[I", true)
  | 11 => ("GuardFigures", "parts", "[I", true)
  | 12 => ("GuardFigures", "told", "I", false)
  | 13 => ("GuardFigures", "upperTold", "J", false)
  | 14 => ("GuardFigures", "lowerTold", "J", false)
  | 15 => ("GuardFigures", "latest", "I", false)
  | _ => ("GuardFigures", "answered", "[I", true)
def gf_t6 : Nat → FieldType := fun k => match k with
  | 0 => .array (.object "GuardFigures$Row")
  | 1 => .array (.object "GuardFigures$Row")
  | 2 => .array (.object "GuardFigures$Guard")
  | 3 => .int
  | 4 => .object "GuardFigures$Writing"
  | 5 => .array (.object "GuardFigures$Writing")
  | 6 => .object "GuardFigures$Reader"
  | 7 => .object "GuardFigures$Watch"
  | 8 => .object "GuardFigures$Outlook"
  | 9 => .object "GuardFigures$Guard"
  | 10 => .array .int
  | 11 => .array .int
  | 12 => .int
  | 13 => .long
  | 14 => .long
  | 15 => .int
  | _ => .array .int
theorem gf_nm6 : ∀ a, a < 17 → ∀ b, b < 17 → a ≠ b → (gf_T6 a).2.1 ≠ (gf_T6 b).2.1 := by decide +kernel
theorem gf_ty6 : ∀ k, k < 17 → parseFieldDescriptor (gf_T6 k).2.2.1 = some (gf_t6 k) := by decide +kernel
def gf_T7 : u_T := fun k => match k with
  | 0 => ("GuardFiguresModel", "rowSizes", "[I", true)
  | 1 => ("GuardFiguresModel", "rowPlaces", "[I", true)
  | 2 => ("GuardFiguresModel", "textSizes", "[I", true)
  | 3 => ("GuardFiguresModel", "textBytes", "[B", true)
  | 4 => ("GuardFiguresModel", "asked", "I", false)
  | 5 => ("GuardFiguresModel", "upper", "J", false)
  | 6 => ("GuardFiguresModel", "lower", "J", false)
  | 7 => ("GuardFiguresModel", "latest", "I", false)
  | 8 => ("GuardFiguresModel", "often", "[I", true)
  | 9 => ("GuardFiguresModel", "st", "[I", true)
  | 10 => ("GuardFiguresModel", "reading", "I", false)
  | 11 => ("GuardFiguresModel", "place", "I", false)
  | 12 => ("GuardFiguresModel", "wrong", "I", false)
  | 13 => ("GuardFiguresModel", "read", "[I", true)
  | 14 => ("GuardFiguresModel", "figs", "[I", true)
  | 15 => ("GuardFiguresModel", "many", "I", false)
  | 16 => ("GuardFiguresModel", "unseen", "I", false)
  | 17 => ("GuardFiguresModel", "firstUnseen", "I", false)
  | 18 => ("GuardFiguresModel", "keptDeeds", "[I", true)
  | 19 => ("GuardFiguresModel", "kept", "[I", true)
  | 20 => ("GuardFiguresModel", "seen", "[I", true)
  | 21 => ("GuardFiguresModel", "things", "I", false)
  | 22 => ("GuardFiguresModel", "were", "[I", true)
  | 23 => ("GuardFiguresModel", "rowFigs", "[I", true)
  | 24 => ("GuardFiguresModel", "smeared", "[I", true)
  | _ => ("GuardFiguresModel", "folds", "[I", true)
def gf_t7 : Nat → FieldType := fun k => match k with
  | 0 => .array .int
  | 1 => .array .int
  | 2 => .array .int
  | 3 => .array .byte
  | 4 => .int
  | 5 => .long
  | 6 => .long
  | 7 => .int
  | 8 => .array .int
  | 9 => .array .int
  | 10 => .int
  | 11 => .int
  | 12 => .int
  | 13 => .array .int
  | 14 => .array .int
  | 15 => .int
  | 16 => .int
  | 17 => .int
  | 18 => .array .int
  | 19 => .array .int
  | 20 => .array .int
  | 21 => .int
  | 22 => .array .int
  | 23 => .array .int
  | 24 => .array .int
  | _ => .array .int
theorem gf_nm7 : ∀ a, a < 26 → ∀ b, b < 26 → a ≠ b → (gf_T7 a).2.1 ≠ (gf_T7 b).2.1 := by decide +kernel
theorem gf_ty7 : ∀ k, k < 26 → parseFieldDescriptor (gf_T7 k).2.2.1 = some (gf_t7 k) := by decide +kernel
abbrev gf_cls : List vw_C := [("GuardFigures$Guard", gf_T0, 3), ("GuardFigures$Outlook", gf_T1, 2), ("GuardFigures$Reader", gf_T2, 2), ("GuardFigures$Row", gf_T3, 2), ("GuardFigures$Watch", gf_T4, 6), ("GuardFigures$Writing", gf_T5, 5), ("GuardFigures", gf_T6, 17), ("GuardFiguresModel", gf_T7, 26)]
def gf_tbl : List Cond := lw_tbl.filter goodWord
theorem gf_mem {w : Cond} (i : Nat) (h : lw_tbl[i]? = some w) (g : goodWord w = true) : w ∈ gf_tbl := List.mem_filter.mpr ⟨List.mem_of_getElem? h, g⟩
theorem gf_good {big : List Cond} {w0 : Cond} (h0 : w0 ∈ gf_tbl) (hb : ∀ w ∈ gf_tbl, w ∈ big) : GoodIn big (w0 :: gf_tbl) := by
  intro w hw
  have h1 : w ∈ gf_tbl := by
    rcases List.mem_cons.mp hw with rfl | h
    · exact h0
    · exact h
  exact ⟨hb w h1, good_of_word (List.mem_filter.mp h1).2⟩
theorem gf_in0 : ∀ w ∈ u_ws "GuardFigures$Guard" gf_T0 3, w ∈ gf_tbl := by
  intro w hw
  obtain ⟨k, hk, rfl⟩ := List.mem_map.mp hw
  have hk := List.mem_range.mp hk
  match k, hk with
  | 0, _ => exact gf_mem 128 (by decide +kernel) (by decide +kernel)
  | 1, _ => exact gf_mem 130 (by decide +kernel) (by decide +kernel)
  | 2, _ => exact gf_mem 132 (by decide +kernel) (by decide +kernel)
  | k + 3, h => exact absurd h (by omega)
theorem gf_in1 : ∀ w ∈ u_ws "GuardFigures$Outlook" gf_T1 2, w ∈ gf_tbl := by
  intro w hw
  obtain ⟨k, hk, rfl⟩ := List.mem_map.mp hw
  have hk := List.mem_range.mp hk
  match k, hk with
  | 0, _ => exact gf_mem 217 (by decide +kernel) (by decide +kernel)
  | 1, _ => exact gf_mem 219 (by decide +kernel) (by decide +kernel)
  | k + 2, h => exact absurd h (by omega)
theorem gf_in2 : ∀ w ∈ u_ws "GuardFigures$Reader" gf_T2 2, w ∈ gf_tbl := by
  intro w hw
  obtain ⟨k, hk, rfl⟩ := List.mem_map.mp hw
  have hk := List.mem_range.mp hk
  match k, hk with
  | 0, _ => exact gf_mem 177 (by decide +kernel) (by decide +kernel)
  | 1, _ => exact gf_mem 179 (by decide +kernel) (by decide +kernel)
  | k + 2, h => exact absurd h (by omega)
theorem gf_in3 : ∀ w ∈ u_ws "GuardFigures$Row" gf_T3 2, w ∈ gf_tbl := by
  intro w hw
  obtain ⟨k, hk, rfl⟩ := List.mem_map.mp hw
  have hk := List.mem_range.mp hk
  match k, hk with
  | 0, _ => exact gf_mem 106 (by decide +kernel) (by decide +kernel)
  | 1, _ => exact gf_mem 108 (by decide +kernel) (by decide +kernel)
  | k + 2, h => exact absurd h (by omega)
theorem gf_in4 : ∀ w ∈ u_ws "GuardFigures$Watch" gf_T4 6, w ∈ gf_tbl := by
  intro w hw
  obtain ⟨k, hk, rfl⟩ := List.mem_map.mp hw
  have hk := List.mem_range.mp hk
  match k, hk with
  | 0, _ => exact gf_mem 195 (by decide +kernel) (by decide +kernel)
  | 1, _ => exact gf_mem 197 (by decide +kernel) (by decide +kernel)
  | 2, _ => exact gf_mem 199 (by decide +kernel) (by decide +kernel)
  | 3, _ => exact gf_mem 201 (by decide +kernel) (by decide +kernel)
  | 4, _ => exact gf_mem 203 (by decide +kernel) (by decide +kernel)
  | 5, _ => exact gf_mem 205 (by decide +kernel) (by decide +kernel)
  | k + 6, h => exact absurd h (by omega)
theorem gf_in5 : ∀ w ∈ u_ws "GuardFigures$Writing" gf_T5 5, w ∈ gf_tbl := by
  intro w hw
  obtain ⟨k, hk, rfl⟩ := List.mem_map.mp hw
  have hk := List.mem_range.mp hk
  match k, hk with
  | 0, _ => exact gf_mem 154 (by decide +kernel) (by decide +kernel)
  | 1, _ => exact gf_mem 156 (by decide +kernel) (by decide +kernel)
  | 2, _ => exact gf_mem 158 (by decide +kernel) (by decide +kernel)
  | 3, _ => exact gf_mem 160 (by decide +kernel) (by decide +kernel)
  | 4, _ => exact gf_mem 162 (by decide +kernel) (by decide +kernel)
  | k + 5, h => exact absurd h (by omega)
theorem gf_in6 : ∀ w ∈ u_ws "GuardFigures" gf_T6 17, w ∈ gf_tbl := by
  intro w hw
  obtain ⟨k, hk, rfl⟩ := List.mem_map.mp hw
  have hk := List.mem_range.mp hk
  match k, hk with
  | 0, _ => exact gf_mem 240 (by decide +kernel) (by decide +kernel)
  | 1, _ => exact gf_mem 242 (by decide +kernel) (by decide +kernel)
  | 2, _ => exact gf_mem 244 (by decide +kernel) (by decide +kernel)
  | 3, _ => exact gf_mem 246 (by decide +kernel) (by decide +kernel)
  | 4, _ => exact gf_mem 248 (by decide +kernel) (by decide +kernel)
  | 5, _ => exact gf_mem 250 (by decide +kernel) (by decide +kernel)
  | 6, _ => exact gf_mem 252 (by decide +kernel) (by decide +kernel)
  | 7, _ => exact gf_mem 254 (by decide +kernel) (by decide +kernel)
  | 8, _ => exact gf_mem 256 (by decide +kernel) (by decide +kernel)
  | 9, _ => exact gf_mem 258 (by decide +kernel) (by decide +kernel)
  | 10, _ => exact gf_mem 260 (by decide +kernel) (by decide +kernel)
  | 11, _ => exact gf_mem 262 (by decide +kernel) (by decide +kernel)
  | 12, _ => exact gf_mem 264 (by decide +kernel) (by decide +kernel)
  | 13, _ => exact gf_mem 266 (by decide +kernel) (by decide +kernel)
  | 14, _ => exact gf_mem 268 (by decide +kernel) (by decide +kernel)
  | 15, _ => exact gf_mem 270 (by decide +kernel) (by decide +kernel)
  | 16, _ => exact gf_mem 272 (by decide +kernel) (by decide +kernel)
  | k + 17, h => exact absurd h (by omega)
theorem gf_in7 : ∀ w ∈ u_ws "GuardFiguresModel" gf_T7 26, w ∈ gf_tbl := by
  intro w hw
  obtain ⟨k, hk, rfl⟩ := List.mem_map.mp hw
  have hk := List.mem_range.mp hk
  match k, hk with
  | 0, _ => exact gf_mem 810 (by decide +kernel) (by decide +kernel)
  | 1, _ => exact gf_mem 812 (by decide +kernel) (by decide +kernel)
  | 2, _ => exact gf_mem 814 (by decide +kernel) (by decide +kernel)
  | 3, _ => exact gf_mem 816 (by decide +kernel) (by decide +kernel)
  | 4, _ => exact gf_mem 818 (by decide +kernel) (by decide +kernel)
  | 5, _ => exact gf_mem 820 (by decide +kernel) (by decide +kernel)
  | 6, _ => exact gf_mem 822 (by decide +kernel) (by decide +kernel)
  | 7, _ => exact gf_mem 824 (by decide +kernel) (by decide +kernel)
  | 8, _ => exact gf_mem 826 (by decide +kernel) (by decide +kernel)
  | 9, _ => exact gf_mem 828 (by decide +kernel) (by decide +kernel)
  | 10, _ => exact gf_mem 830 (by decide +kernel) (by decide +kernel)
  | 11, _ => exact gf_mem 832 (by decide +kernel) (by decide +kernel)
  | 12, _ => exact gf_mem 834 (by decide +kernel) (by decide +kernel)
  | 13, _ => exact gf_mem 836 (by decide +kernel) (by decide +kernel)
  | 14, _ => exact gf_mem 838 (by decide +kernel) (by decide +kernel)
  | 15, _ => exact gf_mem 840 (by decide +kernel) (by decide +kernel)
  | 16, _ => exact gf_mem 842 (by decide +kernel) (by decide +kernel)
  | 17, _ => exact gf_mem 844 (by decide +kernel) (by decide +kernel)
  | 18, _ => exact gf_mem 846 (by decide +kernel) (by decide +kernel)
  | 19, _ => exact gf_mem 848 (by decide +kernel) (by decide +kernel)
  | 20, _ => exact gf_mem 850 (by decide +kernel) (by decide +kernel)
  | 21, _ => exact gf_mem 852 (by decide +kernel) (by decide +kernel)
  | 22, _ => exact gf_mem 854 (by decide +kernel) (by decide +kernel)
  | 23, _ => exact gf_mem 856 (by decide +kernel) (by decide +kernel)
  | 24, _ => exact gf_mem 858 (by decide +kernel) (by decide +kernel)
  | 25, _ => exact gf_mem 860 (by decide +kernel) (by decide +kernel)
  | k + 26, h => exact absurd h (by omega)
def yy_Fi_init : MethodName := ⟨"GuardFigures", "<init>", "()V"⟩
abbrev cc_Fi_init : ByteArray := prog_1_method_1_code
def yy_Ro_init : MethodName := ⟨"GuardFigures$Row", "<init>", "(I)V"⟩
abbrev cc_Ro_init : ByteArray := prog_5_method_1_code
def yy_Gd_init : MethodName := ⟨"GuardFigures$Guard", "<init>", "()V"⟩
abbrev cc_Gd_init : ByteArray := prog_2_method_1_code
def yy_Wr_init : MethodName := ⟨"GuardFigures$Writing", "<init>", "()V"⟩
abbrev cc_Wr_init : ByteArray := prog_7_method_1_code
def yy_Re_init : MethodName := ⟨"GuardFigures$Reader", "<init>", "()V"⟩
abbrev cc_Re_init : ByteArray := prog_4_method_1_code
def yy_Wa_init : MethodName := ⟨"GuardFigures$Watch", "<init>", "()V"⟩
abbrev cc_Wa_init : ByteArray := prog_6_method_1_code
def yy_Ou_init : MethodName := ⟨"GuardFigures$Outlook", "<init>", "()V"⟩
abbrev cc_Ou_init : ByteArray := prog_3_method_1_code
def yy_Fi_row : MethodName := ⟨"GuardFigures", "row", "(II)I"⟩
abbrev cc_Fi_row : ByteArray := prog_1_method_2_code
def yy_Fi_isWithin : MethodName := ⟨"GuardFigures", "isWithin", "(II)Z"⟩
abbrev cc_Fi_isWithin : ByteArray := prog_1_method_44_code
def yy_Fi_renew : MethodName := ⟨"GuardFigures", "renew", "(LGuardFigures$Row;II)I"⟩
abbrev cc_Fi_renew : ByteArray := prog_1_method_54_code
def yy_Fi_found : MethodName := ⟨"GuardFigures", "found", "(I)I"⟩
abbrev cc_Fi_found : ByteArray := prog_1_method_47_code
def yy_Ro_renew : MethodName := ⟨"GuardFigures$Row", "renew", "(II)V"⟩
abbrev cc_Ro_renew : ByteArray := prog_5_method_3_code
def yy_Fi_lay : MethodName := ⟨"GuardFigures", "lay", "(III)I"⟩
abbrev cc_Fi_lay : ByteArray := prog_1_method_3_code
def yy_Fi_refusedPlace : MethodName := ⟨"GuardFigures", "refusedPlace", "(II)I"⟩
abbrev cc_Fi_refusedPlace : ByteArray := prog_1_method_55_code
def yy_Ro_isThere : MethodName := ⟨"GuardFigures$Row", "isThere", "()Z"⟩
abbrev cc_Ro_isThere : ByteArray := prog_5_method_2_code
def yy_Ro_hasPlaces : MethodName := ⟨"GuardFigures$Row", "hasPlaces", "(II)Z"⟩
abbrev cc_Ro_hasPlaces : ByteArray := prog_5_method_4_code
def yy_Ro_replace : MethodName := ⟨"GuardFigures$Row", "replace", "(II)I"⟩
abbrev cc_Ro_replace : ByteArray := prog_5_method_5_code
def yy_Fi_tell : MethodName := ⟨"GuardFigures", "tell", "(I)I"⟩
abbrev cc_Fi_tell : ByteArray := prog_1_method_48_code
def yy_Fi_at : MethodName := ⟨"GuardFigures", "at", "(II)I"⟩
abbrev cc_Fi_at : ByteArray := prog_1_method_4_code
def yy_Fi_tear : MethodName := ⟨"GuardFigures", "tear", "(I)I"⟩
abbrev cc_Fi_tear : ByteArray := prog_1_method_5_code
def yy_Fi_copy : MethodName := ⟨"GuardFigures", "copy", "(IIIII)I"⟩
abbrev cc_Fi_copy : ByteArray := prog_1_method_6_code
def yy_Fi_mean : MethodName := ⟨"GuardFigures", "mean", "(I)I"⟩
abbrev cc_Fi_mean : ByteArray := prog_1_method_7_code
def yy_Ro_sum : MethodName := ⟨"GuardFigures$Row", "sum", "()J"⟩
abbrev cc_Ro_sum : ByteArray := prog_5_method_6_code
def yy_Fi_text : MethodName := ⟨"GuardFigures", "text", "(II)I"⟩
abbrev cc_Fi_text : ByteArray := prog_1_method_8_code
def yy_Fi_put : MethodName := ⟨"GuardFigures", "put", "(III)I"⟩
abbrev cc_Fi_put : ByteArray := prog_1_method_9_code
def yy_Fi_fault : MethodName := ⟨"GuardFigures", "fault", "(I)I"⟩
abbrev cc_Fi_fault : ByteArray := prog_1_method_10_code
def yy_Re_read : MethodName := ⟨"GuardFigures$Reader", "read", "(LGuardFigures$Row;)I"⟩
abbrev cc_Re_read : ByteArray := prog_4_method_2_code
def yy_Re_readGuard : MethodName := ⟨"GuardFigures$Reader", "readGuard", "(LGuardFigures$Row;I)I"⟩
abbrev cc_Re_readGuard : ByteArray := prog_4_method_3_code
def yy_Re_kindOf : MethodName := ⟨"GuardFigures$Reader", "kindOf", "(I)I"⟩
abbrev cc_Re_kindOf : ByteArray := prog_4_method_4_code
def yy_Fi_house : MethodName := ⟨"GuardFigures", "house", "(I)I"⟩
abbrev cc_Fi_house : ByteArray := prog_1_method_11_code
def yy_Gd_resemble : MethodName := ⟨"GuardFigures$Guard", "resemble", "(LGuardFigures$Guard;)V"⟩
abbrev cc_Gd_resemble : ByteArray := prog_2_method_2_code
def yy_Wr_clear : MethodName := ⟨"GuardFigures$Writing", "clear", "()V"⟩
abbrev cc_Wr_clear : ByteArray := prog_7_method_2_code
def yy_Fi_guard : MethodName := ⟨"GuardFigures", "guard", "(II)I"⟩
abbrev cc_Fi_guard : ByteArray := prog_1_method_12_code
def yy_Fi_isGuard : MethodName := ⟨"GuardFigures", "isGuard", "(I)Z"⟩
abbrev cc_Fi_isGuard : ByteArray := prog_1_method_46_code
def yy_Fi_ofGuard : MethodName := ⟨"GuardFigures", "ofGuard", "(II)I"⟩
abbrev cc_Fi_ofGuard : ByteArray := prog_1_method_63_code
def yy_Fi_reckoned : MethodName := ⟨"GuardFigures", "reckoned", "(LGuardFigures$Guard;)I"⟩
abbrev cc_Fi_reckoned : ByteArray := prog_1_method_58_code
def yy_Gd_reckon : MethodName := ⟨"GuardFigures$Guard", "reckon", "([II)I"⟩
abbrev cc_Gd_reckon : ByteArray := prog_2_method_8_code
def yy_Gd_follow : MethodName := ⟨"GuardFigures$Guard", "follow", "(IIII)I"⟩
abbrev cc_Gd_follow : ByteArray := prog_2_method_4_code
def yy_Gd_weight : MethodName := ⟨"GuardFigures$Guard", "weight", "(I)I"⟩
abbrev cc_Gd_weight : ByteArray := prog_2_method_5_code
def yy_Gd_crossSum : MethodName := ⟨"GuardFigures$Guard", "crossSum", "(I)I"⟩
abbrev cc_Gd_crossSum : ByteArray := prog_2_method_6_code
def yy_Gd_finish : MethodName := ⟨"GuardFigures$Guard", "finish", "(II)I"⟩
abbrev cc_Gd_finish : ByteArray := prog_2_method_7_code
def yy_Wa_look : MethodName := ⟨"GuardFigures$Watch", "look", "(LGuardFigures$Writing;[LGuardFigures$Guard;II)V"⟩
abbrev cc_Wa_look : ByteArray := prog_6_method_2_code
def yy_Wa_listThings : MethodName := ⟨"GuardFigures$Watch", "listThings", "(LGuardFigures$Writing;)V"⟩
abbrev cc_Wa_listThings : ByteArray := prog_6_method_9_code
def yy_Wa_list : MethodName := ⟨"GuardFigures$Watch", "list", "(I)V"⟩
abbrev cc_Wa_list : ByteArray := prog_6_method_11_code
def yy_Wa_listExchanges : MethodName := ⟨"GuardFigures$Watch", "listExchanges", "(LGuardFigures$Writing;I)V"⟩
abbrev cc_Wa_listExchanges : ByteArray := prog_6_method_10_code
def yy_Wa_copyWith : MethodName := ⟨"GuardFigures$Watch", "copyWith", "(ILGuardFigures$Writing;)V"⟩
abbrev cc_Wa_copyWith : ByteArray := prog_6_method_12_code
def yy_Fi_exchange : MethodName := ⟨"GuardFigures", "exchange", "([III)V"⟩
abbrev cc_Fi_exchange : ByteArray := prog_1_method_53_code
def yy_Wa_unseen : MethodName := ⟨"GuardFigures$Watch", "unseen", "(II)I"⟩
abbrev cc_Wa_unseen : ByteArray := prog_6_method_4_code
def yy_Wa_startOf : MethodName := ⟨"GuardFigures$Watch", "startOf", "(I)I"⟩
abbrev cc_Wa_startOf : ByteArray := prog_6_method_8_code
def yy_Wa_isNoticed : MethodName := ⟨"GuardFigures$Watch", "isNoticed", "(II)Z"⟩
abbrev cc_Wa_isNoticed : ByteArray := prog_6_method_7_code
def yy_Fi_mark : MethodName := ⟨"GuardFigures", "mark", "(II)I"⟩
abbrev cc_Fi_mark : ByteArray := prog_1_method_13_code
def yy_Gd_is : MethodName := ⟨"GuardFigures$Guard", "is", "(I)Z"⟩
abbrev cc_Gd_is : ByteArray := prog_2_method_3_code
def yy_Fi_figure : MethodName := ⟨"GuardFigures", "figure", "(I)I"⟩
abbrev cc_Fi_figure : ByteArray := prog_1_method_14_code
def yy_Fi_add : MethodName := ⟨"GuardFigures", "add", "(I)I"⟩
abbrev cc_Fi_add : ByteArray := prog_1_method_15_code
def yy_Wr_remember : MethodName := ⟨"GuardFigures$Writing", "remember", "()V"⟩
abbrev cc_Wr_remember : ByteArray := prog_7_method_4_code
def yy_Wr_append : MethodName := ⟨"GuardFigures$Writing", "append", "(I)V"⟩
abbrev cc_Wr_append : ByteArray := prog_7_method_6_code
def yy_Fi_drop : MethodName := ⟨"GuardFigures", "drop", "()I"⟩
abbrev cc_Fi_drop : ByteArray := prog_1_method_16_code
def yy_Wr_removeLast : MethodName := ⟨"GuardFigures$Writing", "removeLast", "()I"⟩
abbrev cc_Wr_removeLast : ByteArray := prog_7_method_7_code
def yy_Fi_change : MethodName := ⟨"GuardFigures", "change", "(II)I"⟩
abbrev cc_Fi_change : ByteArray := prog_1_method_17_code
def yy_Fi_swap : MethodName := ⟨"GuardFigures", "swap", "(I)I"⟩
abbrev cc_Fi_swap : ByteArray := prog_1_method_18_code
def yy_Fi_undo : MethodName := ⟨"GuardFigures", "undo", "(I)I"⟩
abbrev cc_Fi_undo : ByteArray := prog_1_method_19_code
def yy_Wr_goBackTo : MethodName := ⟨"GuardFigures$Writing", "goBackTo", "(I)V"⟩
abbrev cc_Wr_goBackTo : ByteArray := prog_7_method_5_code
def yy_Fi_keep : MethodName := ⟨"GuardFigures", "keep", "(I)I"⟩
abbrev cc_Fi_keep : ByteArray := prog_1_method_20_code
def yy_Wr_resemble : MethodName := ⟨"GuardFigures$Writing", "resemble", "(LGuardFigures$Writing;)V"⟩
abbrev cc_Wr_resemble : ByteArray := prog_7_method_3_code
def yy_Fi_on : MethodName := ⟨"GuardFigures", "on", "(I)I"⟩
abbrev cc_Fi_on : ByteArray := prog_1_method_21_code
def yy_Fi_slips : MethodName := ⟨"GuardFigures", "slips", "(I)I"⟩
abbrev cc_Fi_slips : ByteArray := prog_1_method_22_code
def yy_Fi_tellUnseen : MethodName := ⟨"GuardFigures", "tellUnseen", "(II)I"⟩
abbrev cc_Fi_tellUnseen : ByteArray := prog_1_method_49_code
def yy_Wa_firstUnseen : MethodName := ⟨"GuardFigures$Watch", "firstUnseen", "(II)I"⟩
abbrev cc_Wa_firstUnseen : ByteArray := prog_6_method_5_code
def yy_Fi_swaps : MethodName := ⟨"GuardFigures", "swaps", "(I)I"⟩
abbrev cc_Fi_swaps : ByteArray := prog_1_method_23_code
def yy_Fi_jumps : MethodName := ⟨"GuardFigures", "jumps", "(I)I"⟩
abbrev cc_Fi_jumps : ByteArray := prog_1_method_24_code
def yy_Fi_best : MethodName := ⟨"GuardFigures", "best", "()I"⟩
abbrev cc_Fi_best : ByteArray := prog_1_method_25_code
def yy_Wa_unseen2 : MethodName := ⟨"GuardFigures$Watch", "unseen", "(I)I"⟩
abbrev cc_Wa_unseen2 : ByteArray := prog_6_method_3_code
def yy_Fi_cover : MethodName := ⟨"GuardFigures", "cover", "()I"⟩
abbrev cc_Fi_cover : ByteArray := prog_1_method_26_code
def yy_In_bitCount : MethodName := ⟨"java/lang/Integer", "bitCount", "(I)I"⟩
abbrev cc_In_bitCount : ByteArray := prog_10_method_49_code
def yy_Wa_isCoveredBy : MethodName := ⟨"GuardFigures$Watch", "isCoveredBy", "(I)Z"⟩
abbrev cc_Wa_isCoveredBy : ByteArray := prog_6_method_6_code
def yy_Fi_next : MethodName := ⟨"GuardFigures", "next", "(II)I"⟩
abbrev cc_Fi_next : ByteArray := prog_1_method_27_code
def yy_Fi_isCheck : MethodName := ⟨"GuardFigures", "isCheck", "(I)Z"⟩
abbrev cc_Fi_isCheck : ByteArray := prog_1_method_45_code
def yy_Fi_reckonedWith : MethodName := ⟨"GuardFigures", "reckonedWith", "(LGuardFigures$Guard;I)I"⟩
abbrev cc_Fi_reckonedWith : ByteArray := prog_1_method_59_code
def yy_Fi_near : MethodName := ⟨"GuardFigures", "near", "(II)I"⟩
abbrev cc_Fi_near : ByteArray := prog_1_method_28_code
def yy_Ou_fewestOthers : MethodName := ⟨"GuardFigures$Outlook", "fewestOthers", "(LGuardFigures$Guard;LGuardFigures$Writing;I)I"⟩
abbrev cc_Ou_fewestOthers : ByteArray := prog_3_method_2_code
def yy_Ou_endWithCheck : MethodName := ⟨"GuardFigures$Outlook", "endWithCheck", "(LGuardFigures$Guard;IIII)V"⟩
abbrev cc_Ou_endWithCheck : ByteArray := prog_3_method_11_code
def yy_Ou_keepValue : MethodName := ⟨"GuardFigures$Outlook", "keepValue", "(IIJ)V"⟩
abbrev cc_Ou_keepValue : ByteArray := prog_3_method_14_code
def yy_Ou_othersWith : MethodName := ⟨"GuardFigures$Outlook", "othersWith", "(LGuardFigures$Guard;LGuardFigures$Writing;III)J"⟩
abbrev cc_Ou_othersWith : ByteArray := prog_3_method_3_code
def yy_Ou_valueOf : MethodName := ⟨"GuardFigures$Outlook", "valueOf", "(II)J"⟩
abbrev cc_Ou_valueOf : ByteArray := prog_3_method_13_code
def yy_Fi_fills : MethodName := ⟨"GuardFigures", "fills", "(III)I"⟩
abbrev cc_Fi_fills : ByteArray := prog_1_method_29_code
def yy_Fi_isSmearedNumber : MethodName := ⟨"GuardFigures", "isSmearedNumber", "(LGuardFigures$Row;)Z"⟩
abbrev cc_Fi_isSmearedNumber : ByteArray := prog_1_method_57_code
def yy_Ou_waysToFill : MethodName := ⟨"GuardFigures$Outlook", "waysToFill", "(LGuardFigures$Guard;LGuardFigures$Row;I)I"⟩
abbrev cc_Ou_waysToFill : ByteArray := prog_3_method_4_code
def yy_Ou_waysWith : MethodName := ⟨"GuardFigures$Outlook", "waysWith", "(LGuardFigures$Guard;LGuardFigures$Row;III)J"⟩
abbrev cc_Ou_waysWith : ByteArray := prog_3_method_5_code
def yy_Fi_kinds : MethodName := ⟨"GuardFigures", "kinds", "(II)I"⟩
abbrev cc_Fi_kinds : ByteArray := prog_1_method_30_code
def yy_Fi_refusedExample : MethodName := ⟨"GuardFigures", "refusedExample", "(LGuardFigures$Row;)I"⟩
abbrev cc_Fi_refusedExample : ByteArray := prog_1_method_56_code
def yy_Fi_kindsBy : MethodName := ⟨"GuardFigures", "kindsBy", "(LGuardFigures$Guard;LGuardFigures$Row;)I"⟩
abbrev cc_Fi_kindsBy : ByteArray := prog_1_method_61_code
def yy_Fi_reckonsAsTold : MethodName := ⟨"GuardFigures", "reckonsAsTold", "(LGuardFigures$Guard;LGuardFigures$Row;)Z"⟩
abbrev cc_Fi_reckonsAsTold : ByteArray := prog_1_method_60_code
def yy_Fi_firsts : MethodName := ⟨"GuardFigures", "firsts", "(II)I"⟩
abbrev cc_Fi_firsts : ByteArray := prog_1_method_31_code
def yy_Fi_test : MethodName := ⟨"GuardFigures", "test", "(II)I"⟩
abbrev cc_Fi_test : ByteArray := prog_1_method_32_code
def yy_Fi_greatestPart : MethodName := ⟨"GuardFigures", "greatestPart", "(LGuardFigures$Guard;II)I"⟩
abbrev cc_Fi_greatestPart : ByteArray := prog_1_method_62_code
def yy_Fi_duel : MethodName := ⟨"GuardFigures", "duel", "(II)I"⟩
abbrev cc_Fi_duel : ByteArray := prog_1_method_33_code
def yy_Ou_endOfTurns : MethodName := ⟨"GuardFigures$Outlook", "endOfTurns", "(LGuardFigures$Guard;LGuardFigures$Writing;I)I"⟩
abbrev cc_Ou_endOfTurns : ByteArray := prog_3_method_6_code
def yy_Ou_endWithReckoned : MethodName := ⟨"GuardFigures$Outlook", "endWithReckoned", "(LGuardFigures$Guard;I)V"⟩
abbrev cc_Ou_endWithReckoned : ByteArray := prog_3_method_12_code
def yy_Ou_afterBestFigure : MethodName := ⟨"GuardFigures$Outlook", "afterBestFigure", "(LGuardFigures$Guard;IIIZ)J"⟩
abbrev cc_Ou_afterBestFigure : ByteArray := prog_3_method_7_code
def yy_Fi_odds : MethodName := ⟨"GuardFigures", "odds", "(II)I"⟩
abbrev cc_Fi_odds : ByteArray := prog_1_method_34_code
def yy_Ou_copiesReckonedAlike : MethodName := ⟨"GuardFigures$Outlook", "copiesReckonedAlike", "(LGuardFigures$Guard;LGuardFigures$Writing;I)J"⟩
abbrev cc_Ou_copiesReckonedAlike : ByteArray := prog_3_method_8_code
def yy_Ou_overCopies : MethodName := ⟨"GuardFigures$Outlook", "overCopies", "(LGuardFigures$Guard;LGuardFigures$Writing;I)J"⟩
abbrev cc_Ou_overCopies : ByteArray := prog_3_method_10_code
def yy_Fi_power : MethodName := ⟨"GuardFigures", "power", "(II)J"⟩
abbrev cc_Fi_power : ByteArray := prog_1_method_51_code
def yy_Fi_tellShare : MethodName := ⟨"GuardFigures", "tellShare", "(J)I"⟩
abbrev cc_Fi_tellShare : ByteArray := prog_1_method_50_code
def yy_Fi_commonDivisor : MethodName := ⟨"GuardFigures", "commonDivisor", "(JJ)J"⟩
abbrev cc_Fi_commonDivisor : ByteArray := prog_1_method_52_code
def yy_Fi_mid : MethodName := ⟨"GuardFigures", "mid", "(II)I"⟩
abbrev cc_Fi_mid : ByteArray := prog_1_method_35_code
def yy_Ou_reckonedOverCopies : MethodName := ⟨"GuardFigures$Outlook", "reckonedOverCopies", "(LGuardFigures$Guard;LGuardFigures$Writing;I)J"⟩
abbrev cc_Ou_reckonedOverCopies : ByteArray := prog_3_method_9_code
def yy_Fi_lots : MethodName := ⟨"GuardFigures", "lots", "(II)I"⟩
abbrev cc_Fi_lots : ByteArray := prog_1_method_36_code
def yy_Wr_doByLot : MethodName := ⟨"GuardFigures$Writing", "doByLot", "(I)V"⟩
abbrev cc_Wr_doByLot : ByteArray := prog_7_method_8_code
def yy_Fi_asked : MethodName := ⟨"GuardFigures", "asked", "()I"⟩
abbrev cc_Fi_asked : ByteArray := prog_1_method_37_code
def yy_Fi_upper : MethodName := ⟨"GuardFigures", "upper", "()J"⟩
abbrev cc_Fi_upper : ByteArray := prog_1_method_38_code
def yy_Fi_lower : MethodName := ⟨"GuardFigures", "lower", "()J"⟩
abbrev cc_Fi_lower : ByteArray := prog_1_method_39_code
def yy_Fi_count : MethodName := ⟨"GuardFigures", "count", "(I)I"⟩
abbrev cc_Fi_count : ByteArray := prog_1_method_40_code
def yy_Fi_counted : MethodName := ⟨"GuardFigures", "counted", "(I)I"⟩
abbrev cc_Fi_counted : ByteArray := prog_1_method_64_code
def yy_Fi_asNumber : MethodName := ⟨"GuardFigures", "asNumber", "([II)I"⟩
abbrev cc_Fi_asNumber : ByteArray := prog_1_method_65_code
def yy_Fi_reckonedTogether : MethodName := ⟨"GuardFigures", "reckonedTogether", "()I"⟩
abbrev cc_Fi_reckonedTogether : ByteArray := prog_1_method_66_code
def yy_Fi_noticingAllSlips : MethodName := ⟨"GuardFigures", "noticingAllSlips", "()I"⟩
abbrev cc_Fi_noticingAllSlips : ByteArray := prog_1_method_67_code
def yy_Fi_howManyThere : MethodName := ⟨"GuardFigures", "howManyThere", "([LGuardFigures$Row;)I"⟩
abbrev cc_Fi_howManyThere : ByteArray := prog_1_method_68_code
def yy_Fi_keptCount : MethodName := ⟨"GuardFigures", "keptCount", "()I"⟩
abbrev cc_Fi_keptCount : ByteArray := prog_1_method_69_code
def yy_Fi_howManyAre : MethodName := ⟨"GuardFigures", "howManyAre", "(I)I"⟩
abbrev cc_Fi_howManyAre : ByteArray := prog_1_method_70_code
def yy_Fi_finding : MethodName := ⟨"GuardFigures", "finding", "()I"⟩
abbrev cc_Fi_finding : ByteArray := prog_1_method_41_code
def yy_Fi_findings : MethodName := ⟨"GuardFigures", "findings", "(I)I"⟩
abbrev cc_Fi_findings : ByteArray := prog_1_method_42_code
def yy_Fi_digest : MethodName := ⟨"GuardFigures", "digest", "()J"⟩
abbrev cc_Fi_digest : ByteArray := prog_1_method_43_code
def yy_Ro_digestOn : MethodName := ⟨"GuardFigures$Row", "digestOn", "(J)J"⟩
abbrev cc_Ro_digestOn : ByteArray := prog_5_method_7_code
def yy_Mo_init : MethodName := ⟨"GuardFiguresModel", "<init>", "()V"⟩
abbrev cc_Mo_init : ByteArray := prog_9_method_1_code
def yy_Mo_row : MethodName := ⟨"GuardFiguresModel", "row", "(II)I"⟩
abbrev cc_Mo_row : ByteArray := prog_9_method_6_code
def yy_Mo_isRow : MethodName := ⟨"GuardFiguresModel", "isRow", "(I)Z"⟩
abbrev cc_Mo_isRow : ByteArray := prog_9_method_5_code
def yy_Mo_in : MethodName := ⟨"GuardFiguresModel", "in", "(JJJ)Z"⟩
abbrev cc_Mo_in : ByteArray := prog_9_method_2_code
def yy_Mo_find : MethodName := ⟨"GuardFiguresModel", "find", "(I)I"⟩
abbrev cc_Mo_find : ByteArray := prog_9_method_3_code
def yy_Mo_lay : MethodName := ⟨"GuardFiguresModel", "lay", "(III)I"⟩
abbrev cc_Mo_lay : ByteArray := prog_9_method_8_code
def yy_Mo_lacksPlace : MethodName := ⟨"GuardFiguresModel", "lacksPlace", "(II)I"⟩
abbrev cc_Mo_lacksPlace : ByteArray := prog_9_method_7_code
def yy_Mo_tells : MethodName := ⟨"GuardFiguresModel", "tells", "(I)I"⟩
abbrev cc_Mo_tells : ByteArray := prog_9_method_4_code
def yy_Mo_at : MethodName := ⟨"GuardFiguresModel", "at", "(II)I"⟩
abbrev cc_Mo_at : ByteArray := prog_9_method_9_code
def yy_Mo_tear : MethodName := ⟨"GuardFiguresModel", "tear", "(I)I"⟩
abbrev cc_Mo_tear : ByteArray := prog_9_method_10_code
def yy_Mo_copy : MethodName := ⟨"GuardFiguresModel", "copy", "(IIIII)I"⟩
abbrev cc_Mo_copy : ByteArray := prog_9_method_11_code
def yy_Mo_mean : MethodName := ⟨"GuardFiguresModel", "mean", "(I)I"⟩
abbrev cc_Mo_mean : ByteArray := prog_9_method_12_code
def yy_Mo_text : MethodName := ⟨"GuardFiguresModel", "text", "(II)I"⟩
abbrev cc_Mo_text : ByteArray := prog_9_method_14_code
def yy_Mo_isText : MethodName := ⟨"GuardFiguresModel", "isText", "(I)Z"⟩
abbrev cc_Mo_isText : ByteArray := prog_9_method_13_code
def yy_Mo_put : MethodName := ⟨"GuardFiguresModel", "put", "(III)I"⟩
abbrev cc_Mo_put : ByteArray := prog_9_method_15_code
def yy_Mo_fault : MethodName := ⟨"GuardFiguresModel", "fault", "(I)I"⟩
abbrev cc_Mo_fault : ByteArray := prog_9_method_23_code
def yy_Mo_faultOf : MethodName := ⟨"GuardFiguresModel", "faultOf", "(I)I"⟩
abbrev cc_Mo_faultOf : ByteArray := prog_9_method_22_code
def yy_Mo_nextLetter : MethodName := ⟨"GuardFiguresModel", "nextLetter", "()I"⟩
abbrev cc_Mo_nextLetter : ByteArray := prog_9_method_17_code
def yy_Mo_letter : MethodName := ⟨"GuardFiguresModel", "letter", "()I"⟩
abbrev cc_Mo_letter : ByteArray := prog_9_method_16_code
def yy_Mo_readGuard : MethodName := ⟨"GuardFiguresModel", "readGuard", "()Z"⟩
abbrev cc_Mo_readGuard : ByteArray := prog_9_method_21_code
def yy_Mo_kindBy : MethodName := ⟨"GuardFiguresModel", "kindBy", "(I)I"⟩
abbrev cc_Mo_kindBy : ByteArray := prog_9_method_19_code
def yy_Mo_faults : MethodName := ⟨"GuardFiguresModel", "faults", "()Z"⟩
abbrev cc_Mo_faults : ByteArray := prog_9_method_18_code
def yy_Mo_takesFigure : MethodName := ⟨"GuardFiguresModel", "takesFigure", "(I)Z"⟩
abbrev cc_Mo_takesFigure : ByteArray := prog_9_method_20_code
def yy_Mo_house : MethodName := ⟨"GuardFiguresModel", "house", "(I)I"⟩
abbrev cc_Mo_house : ByteArray := prog_9_method_24_code
def yy_Mo_slips : MethodName := ⟨"GuardFiguresModel", "slips", "(I)I"⟩
abbrev cc_Mo_slips : ByteArray := prog_9_method_42_code
def yy_Mo_isGuard : MethodName := ⟨"GuardFiguresModel", "isGuard", "(I)Z"⟩
abbrev cc_Mo_isGuard : ByteArray := prog_9_method_25_code
def yy_Mo_goSlips : MethodName := ⟨"GuardFiguresModel", "goSlips", "(I)V"⟩
abbrev cc_Mo_goSlips : ByteArray := prog_9_method_36_code
def yy_Mo_now : MethodName := ⟨"GuardFiguresModel", "now", "(I)I"⟩
abbrev cc_Mo_now : ByteArray := prog_9_method_33_code
def yy_Mo_write : MethodName := ⟨"GuardFiguresModel", "write", "()V"⟩
abbrev cc_Mo_write : ByteArray := prog_9_method_32_code
def yy_Mo_byGuard : MethodName := ⟨"GuardFiguresModel", "byGuard", "(I[II)I"⟩
abbrev cc_Mo_byGuard : ByteArray := prog_9_method_31_code
def yy_Mo_asKind : MethodName := ⟨"GuardFiguresModel", "asKind", "(II[II)I"⟩
abbrev cc_Mo_asKind : ByteArray := prog_9_method_30_code
def yy_Mo_reckons : MethodName := ⟨"GuardFiguresModel", "reckons", "(III[II)I"⟩
abbrev cc_Mo_reckons : ByteArray := prog_9_method_29_code
def yy_Mo_sumOf : MethodName := ⟨"GuardFiguresModel", "sumOf", "(II[IIZZ)I"⟩
abbrev cc_Mo_sumOf : ByteArray := prog_9_method_27_code
def yy_Mo_chainOf : MethodName := ⟨"GuardFiguresModel", "chainOf", "(II[II)I"⟩
abbrev cc_Mo_chainOf : ByteArray := prog_9_method_28_code
def yy_Mo_unnoticed : MethodName := ⟨"GuardFiguresModel", "unnoticed", "(III)V"⟩
abbrev cc_Mo_unnoticed : ByteArray := prog_9_method_35_code
def yy_Mo_tellUnseen : MethodName := ⟨"GuardFiguresModel", "tellUnseen", "()I"⟩
abbrev cc_Mo_tellUnseen : ByteArray := prog_9_method_41_code
def yy_Mo_swaps : MethodName := ⟨"GuardFiguresModel", "swaps", "(I)I"⟩
abbrev cc_Mo_swaps : ByteArray := prog_9_method_43_code
def yy_Mo_goSwaps : MethodName := ⟨"GuardFiguresModel", "goSwaps", "(II)V"⟩
abbrev cc_Mo_goSwaps : ByteArray := prog_9_method_38_code
def yy_Mo_exchange : MethodName := ⟨"GuardFiguresModel", "exchange", "(II)V"⟩
abbrev cc_Mo_exchange : ByteArray := prog_9_method_37_code
def yy_Mo_jumps : MethodName := ⟨"GuardFiguresModel", "jumps", "(I)I"⟩
abbrev cc_Mo_jumps : ByteArray := prog_9_method_44_code
def yy_Mo_guard : MethodName := ⟨"GuardFiguresModel", "guard", "(II)I"⟩
abbrev cc_Mo_guard : ByteArray := prog_9_method_46_code
def yy_Mo_toldOf : MethodName := ⟨"GuardFiguresModel", "toldOf", "(II)I"⟩
abbrev cc_Mo_toldOf : ByteArray := prog_9_method_45_code
def yy_Mo_slipsOf : MethodName := ⟨"GuardFiguresModel", "slipsOf", "(I)I"⟩
abbrev cc_Mo_slipsOf : ByteArray := prog_9_method_39_code
def yy_Mo_mark : MethodName := ⟨"GuardFiguresModel", "mark", "(II)I"⟩
abbrev cc_Mo_mark : ByteArray := prog_9_method_48_code
def yy_Mo_isOf : MethodName := ⟨"GuardFiguresModel", "isOf", "(II)Z"⟩
abbrev cc_Mo_isOf : ByteArray := prog_9_method_47_code
def yy_Mo_figure : MethodName := ⟨"GuardFiguresModel", "figure", "(I)I"⟩
abbrev cc_Mo_figure : ByteArray := prog_9_method_49_code
def yy_Mo_add : MethodName := ⟨"GuardFiguresModel", "add", "(I)I"⟩
abbrev cc_Mo_add : ByteArray := prog_9_method_53_code
def yy_Mo_isFigure : MethodName := ⟨"GuardFiguresModel", "isFigure", "(I)Z"⟩
abbrev cc_Mo_isFigure : ByteArray := prog_9_method_26_code
def yy_Mo_note : MethodName := ⟨"GuardFiguresModel", "note", "()V"⟩
abbrev cc_Mo_note : ByteArray := prog_9_method_50_code
def yy_Mo_append : MethodName := ⟨"GuardFiguresModel", "append", "(I)V"⟩
abbrev cc_Mo_append : ByteArray := prog_9_method_51_code
def yy_Mo_drop : MethodName := ⟨"GuardFiguresModel", "drop", "()I"⟩
abbrev cc_Mo_drop : ByteArray := prog_9_method_54_code
def yy_Mo_takeOff : MethodName := ⟨"GuardFiguresModel", "takeOff", "()V"⟩
abbrev cc_Mo_takeOff : ByteArray := prog_9_method_52_code
def yy_Mo_change : MethodName := ⟨"GuardFiguresModel", "change", "(II)I"⟩
abbrev cc_Mo_change : ByteArray := prog_9_method_55_code
def yy_Mo_swap : MethodName := ⟨"GuardFiguresModel", "swap", "(I)I"⟩
abbrev cc_Mo_swap : ByteArray := prog_9_method_56_code
def yy_Mo_undo : MethodName := ⟨"GuardFiguresModel", "undo", "(I)I"⟩
abbrev cc_Mo_undo : ByteArray := prog_9_method_57_code
def yy_Mo_keep : MethodName := ⟨"GuardFiguresModel", "keep", "(I)I"⟩
abbrev cc_Mo_keep : ByteArray := prog_9_method_58_code
def yy_Mo_on : MethodName := ⟨"GuardFiguresModel", "on", "(I)I"⟩
abbrev cc_Mo_on : ByteArray := prog_9_method_59_code
def yy_Mo_best : MethodName := ⟨"GuardFiguresModel", "best", "()I"⟩
abbrev cc_Mo_best : ByteArray := prog_9_method_60_code
def yy_Mo_allUnseen : MethodName := ⟨"GuardFiguresModel", "allUnseen", "(I)I"⟩
abbrev cc_Mo_allUnseen : ByteArray := prog_9_method_40_code
def yy_Mo_cover : MethodName := ⟨"GuardFiguresModel", "cover", "()I"⟩
abbrev cc_Mo_cover : ByteArray := prog_9_method_65_code
def yy_Mo_seeAll : MethodName := ⟨"GuardFiguresModel", "seeAll", "()V"⟩
abbrev cc_Mo_seeAll : ByteArray := prog_9_method_62_code
def yy_Mo_seeThing : MethodName := ⟨"GuardFiguresModel", "seeThing", "()V"⟩
abbrev cc_Mo_seeThing : ByteArray := prog_9_method_61_code
def yy_Mo_ones : MethodName := ⟨"GuardFiguresModel", "ones", "(I)I"⟩
abbrev cc_Mo_ones : ByteArray := prog_9_method_63_code
def yy_Mo_isCover : MethodName := ⟨"GuardFiguresModel", "isCover", "(I)Z"⟩
abbrev cc_Mo_isCover : ByteArray := prog_9_method_64_code
def yy_Mo_next : MethodName := ⟨"GuardFiguresModel", "next", "(II)I"⟩
abbrev cc_Mo_next : ByteArray := prog_9_method_66_code
def yy_Mo_near : MethodName := ⟨"GuardFiguresModel", "near", "(II)I"⟩
abbrev cc_Mo_near : ByteArray := prog_9_method_68_code
def yy_Mo_asNumber : MethodName := ⟨"GuardFiguresModel", "asNumber", "([II)I"⟩
abbrev cc_Mo_asNumber : ByteArray := prog_9_method_34_code
def yy_Mo_leastWith : MethodName := ⟨"GuardFiguresModel", "leastWith", "(III)I"⟩
abbrev cc_Mo_leastWith : ByteArray := prog_9_method_67_code
def yy_Mo_fills : MethodName := ⟨"GuardFiguresModel", "fills", "(III)I"⟩
abbrev cc_Mo_fills : ByteArray := prog_9_method_69_code
def yy_Mo_kinds : MethodName := ⟨"GuardFiguresModel", "kinds", "(II)I"⟩
abbrev cc_Mo_kinds : ByteArray := prog_9_method_72_code
def yy_Mo_lacksTold : MethodName := ⟨"GuardFiguresModel", "lacksTold", "(I)I"⟩
abbrev cc_Mo_lacksTold : ByteArray := prog_9_method_70_code
def yy_Mo_kindSet : MethodName := ⟨"GuardFiguresModel", "kindSet", "(II)I"⟩
abbrev cc_Mo_kindSet : ByteArray := prog_9_method_71_code
def yy_Mo_firsts : MethodName := ⟨"GuardFiguresModel", "firsts", "(II)I"⟩
abbrev cc_Mo_firsts : ByteArray := prog_9_method_73_code
def yy_Mo_test : MethodName := ⟨"GuardFiguresModel", "test", "(II)I"⟩
abbrev cc_Mo_test : ByteArray := prog_9_method_75_code
def yy_Mo_partBy : MethodName := ⟨"GuardFiguresModel", "partBy", "(III)I"⟩
abbrev cc_Mo_partBy : ByteArray := prog_9_method_74_code
def yy_Mo_duel : MethodName := ⟨"GuardFiguresModel", "duel", "(II)I"⟩
abbrev cc_Mo_duel : ByteArray := prog_9_method_76_code
def yy_Mo_odds : MethodName := ⟨"GuardFiguresModel", "odds", "(II)I"⟩
abbrev cc_Mo_odds : ByteArray := prog_9_method_79_code
def yy_Mo_weigh : MethodName := ⟨"GuardFiguresModel", "weigh", "(IIZ)I"⟩
abbrev cc_Mo_weigh : ByteArray := prog_9_method_78_code
def yy_Mo_tellShare : MethodName := ⟨"GuardFiguresModel", "tellShare", "(JJ)I"⟩
abbrev cc_Mo_tellShare : ByteArray := prog_9_method_77_code
def yy_Mo_mid : MethodName := ⟨"GuardFiguresModel", "mid", "(II)I"⟩
abbrev cc_Mo_mid : ByteArray := prog_9_method_80_code
def yy_Mo_lots : MethodName := ⟨"GuardFiguresModel", "lots", "(II)I"⟩
abbrev cc_Mo_lots : ByteArray := prog_9_method_81_code
def yy_Mo_asked : MethodName := ⟨"GuardFiguresModel", "asked", "()I"⟩
abbrev cc_Mo_asked : ByteArray := prog_9_method_82_code
def yy_Mo_upper : MethodName := ⟨"GuardFiguresModel", "upper", "()J"⟩
abbrev cc_Mo_upper : ByteArray := prog_9_method_83_code
def yy_Mo_lower : MethodName := ⟨"GuardFiguresModel", "lower", "()J"⟩
abbrev cc_Mo_lower : ByteArray := prog_9_method_84_code
def yy_Mo_count : MethodName := ⟨"GuardFiguresModel", "count", "(I)I"⟩
abbrev cc_Mo_count : ByteArray := prog_9_method_89_code
def yy_Mo_allReckon : MethodName := ⟨"GuardFiguresModel", "allReckon", "()I"⟩
abbrev cc_Mo_allReckon : ByteArray := prog_9_method_87_code
def yy_Mo_allNotice : MethodName := ⟨"GuardFiguresModel", "allNotice", "()I"⟩
abbrev cc_Mo_allNotice : ByteArray := prog_9_method_88_code
def yy_Mo_thereOf : MethodName := ⟨"GuardFiguresModel", "thereOf", "([I)I"⟩
abbrev cc_Mo_thereOf : ByteArray := prog_9_method_85_code
def yy_Mo_ofKind : MethodName := ⟨"GuardFiguresModel", "ofKind", "(I)I"⟩
abbrev cc_Mo_ofKind : ByteArray := prog_9_method_86_code
def yy_Mo_finding : MethodName := ⟨"GuardFiguresModel", "finding", "()I"⟩
abbrev cc_Mo_finding : ByteArray := prog_9_method_90_code
def yy_Mo_findings : MethodName := ⟨"GuardFiguresModel", "findings", "(I)I"⟩
abbrev cc_Mo_findings : ByteArray := prog_9_method_91_code
def yy_Mo_digest : MethodName := ⟨"GuardFiguresModel", "digest", "()J"⟩
abbrev cc_Mo_digest : ByteArray := prog_9_method_92_code
end
section
/-! the cells in the order in which they are made, what refers to what (printed by wip/whole/gen_core1.py) -/
def gf_shL : List (Nat × Nat × Nat) := [(0, 6, 17), (4, 3, 6), (0, 3, 2), (1, 0, 40), (0, 3, 2), (1, 0, 40), (0, 3, 2), (1, 0, 40), (0, 3, 2), (1, 0, 40), (0, 3, 2), (1, 0, 40), (0, 3, 2), (1, 0, 40), (4, 3, 4), (0, 3, 2), (1, 0, 60), (0, 3, 2), (1, 0, 60), (0, 3, 2), (1, 0, 60), (0, 3, 2), (1, 0, 60), (4, 4, 7), (0, 0, 3), (0, 0, 3), (0, 0, 3), (0, 0, 3), (0, 0, 3), (0, 0, 3), (0, 0, 3), (4, 5, 3), (0, 5, 5), (1, 0, 8), (1, 0, 40), (0, 5, 5), (1, 0, 8), (1, 0, 40), (0, 5, 5), (1, 0, 8), (1, 0, 40), (0, 5, 5), (1, 0, 8), (1, 0, 40), (0, 2, 2), (4, 4, 7), (0, 0, 3), (0, 0, 3), (0, 0, 3), (0, 0, 3), (0, 0, 3), (0, 0, 3), (0, 0, 3), (0, 4, 6), (1, 0, 88), (1, 0, 88), (1, 0, 3), (1, 0, 8), (1, 0, 7), (0, 1, 2), (2, 1, 99), (0, 0, 3), (1, 0, 8), (1, 0, 11), (1, 0, 6), (0, 7, 26), (1, 0, 6), (1, 0, 240), (1, 0, 4), (3, 2, 240), (1, 0, 6), (1, 0, 392), (1, 0, 24), (1, 0, 8), (1, 0, 3), (1, 0, 1176), (1, 0, 85), (1, 0, 7), (1, 0, 9), (1, 0, 3), (1, 0, 10000)]
def gf_rfL : List (List Int) := [[1, 14, 23, -1, 41, 31, 44, 53, 59, 61, 62, 63, -1, -1, -1, -1, 64], [2, 4, 6, 8, 10, 12], [3], [], [5], [], [7], [], [9], [], [11], [], [13], [], [15, 17, 19, 21], [16], [], [18], [], [20], [], [22], [], [24, 25, 26, 27, 28, 29, 30], [], [], [], [], [], [], [], [32, 35, 38], [33, -1, -1, 34], [], [], [36, -1, -1, 37], [], [], [39, -1, -1, 40], [], [], [42, -1, -1, 43], [], [], [45], [46, 47, 48, 49, 50, 51, 52], [], [], [], [], [], [], [], [54, 55, -1, 56, 57, 58], [], [], [], [], [], [60], [], [], [], [], [], [66, 67, 68, 69, -1, -1, -1, -1, 70, 71, -1, -1, -1, 72, 73, -1, -1, -1, 74, 75, 76, -1, 77, 78, 79, 80], [], [], [], [], [], [], [], [], [], [], [], [], [], [], []]
def gf_ftL : List (List Nat) := [[0, 0, 0], [2, 0], [2, 0], [2, 0], [2, 2, 0, 2, 2, 2], [2, 0, 0, 2, 0], [2, 2, 2, 0, 2, 2, 2, 2, 2, 2, 2, 2, 0, 1, 1, 0, 2], [2, 2, 2, 2, 0, 1, 1, 0, 2, 2, 0, 0, 0, 2, 2, 0, 0, 0, 2, 2, 2, 0, 2, 2, 2, 2]]
end
section
/-! numbers: machine ints and longs as integers -/
def gf_i (x : Int) : Int32 := Int32.ofInt x
def gf_l (x : Int) : Int64 := Int64.ofInt x
abbrev gf_R (x : Int) : Prop := -2147483648 ≤ x ∧ x ≤ 2147483647
abbrev gf_RL (x : Int) : Prop := -9223372036854775808 ≤ x ∧ x ≤ 9223372036854775807
theorem gf_i_toInt {x : Int} (h : gf_R x) : (gf_i x).toInt = x := Int32.toInt_ofInt_of_le (by omega) (by omega)
theorem gf_l_toInt {x : Int} (h : gf_RL x) : (gf_l x).toInt = x := Int64.toInt_ofInt_of_le (by omega) (by omega)
theorem gf_i_of (v : Int32) : v = gf_i v.toInt := (Int32.ofInt_toInt v).symm
theorem gf_i_rng (v : Int32) : gf_R v.toInt := by
  have h1 := Int32.le_toInt v
  have h2 := Int32.toInt_lt v
  omega
theorem gf_i_lt {a b : Int} (ha : gf_R a) (hb : gf_R b) : gf_i a < gf_i b ↔ a < b := by rw [Int32.lt_iff_toInt_lt, gf_i_toInt ha, gf_i_toInt hb]
theorem gf_i_le {a b : Int} (ha : gf_R a) (hb : gf_R b) : gf_i a ≤ gf_i b ↔ a ≤ b := by rw [Int32.le_iff_toInt_le, gf_i_toInt ha, gf_i_toInt hb]
theorem gf_i_eq {a b : Int} (ha : gf_R a) (hb : gf_R b) : gf_i a = gf_i b ↔ a = b := by rw [← Int32.toInt_inj, gf_i_toInt ha, gf_i_toInt hb]
theorem gf_l_lt {a b : Int} (ha : gf_RL a) (hb : gf_RL b) : gf_l a < gf_l b ↔ a < b := by rw [Int64.lt_iff_toInt_lt, gf_l_toInt ha, gf_l_toInt hb]
theorem gf_l_eq {a b : Int} (ha : gf_RL a) (hb : gf_RL b) : gf_l a = gf_l b ↔ a = b := by rw [← Int64.toInt_inj, gf_l_toInt ha, gf_l_toInt hb]
theorem gf_i0 : gf_i 0 = 0 := by decide +kernel
theorem gf_i_nat {x : Int} (h0 : 0 ≤ x) (h1 : gf_R x) : (gf_i x).toNatClampNeg = x.toNat := Int32.toNatClampNeg_ofInt_of_le (by omega) (by omega)
theorem gf_i_neg {x : Int} (h1 : gf_R x) : gf_i x < 0 ↔ x < 0 := by rw [← gf_i0]; exact gf_i_lt h1 (by decide)
theorem gf_vin {x : Int} {n : Nat} (h0 : 0 ≤ x) (h1 : x < n) (hR : gf_R x) : vp_in (gf_i x) n := by
  intro h
  rcases h with h | h
  · have := (gf_i_neg hR).mp h
    omega
  · rw [gf_i_nat h0 hR] at h
    omega
theorem gf_i_div {a b : Int} (ha : gf_R a) (h0 : 0 ≤ a) (hb : 0 < b) (hb2 : gf_R b) : gf_i a / gf_i b = gf_i (a / b) := by
  have h1 : a / b ≤ a := Int.ediv_le_self b h0
  have h2 : 0 ≤ a / b := Int.ediv_nonneg h0 (by omega)
  rw [← Int32.toInt_inj, Int32.toInt_div, gf_i_toInt ha, gf_i_toInt hb2, gf_i_toInt (by omega), Int.tdiv_eq_ediv_of_nonneg h0]
  exact Int.bmod_eq_of_le (by omega) (by omega)
theorem gf_i_rem {a b : Int} (ha : gf_R a) (h0 : 0 ≤ a) (hb : 0 < b) (hb2 : gf_R b) : gf_i a - gf_i a / gf_i b * gf_i b = gf_i (a % b) := by
  rw [gf_i_div ha h0 hb hb2]
  unfold gf_i
  rw [← Int32.ofInt_mul, ← Int32.ofInt_sub]
  congr 1
  rw [Int.emod_def, Int.mul_comm]
theorem gf_l_tdiv {a b : Int} (ha : gf_RL a) (hb : 0 < b) (hb2 : gf_RL b) : gf_l a / gf_l b = gf_l (a.tdiv b) := by
  have h4 : (a.tdiv b).natAbs ≤ a.natAbs := by rw [Int.natAbs_tdiv]; exact Nat.div_le_self _ _
  have h3 : gf_RL (a.tdiv b) ∨ a.tdiv b = 9223372036854775808 := by omega
  rcases h3 with h3 | h3
  · rw [← Int64.toInt_inj, Int64.toInt_div, gf_l_toInt ha, gf_l_toInt hb2, gf_l_toInt h3]
    exact Int.bmod_eq_of_le (by omega) (by omega)
  · exfalso
    have h5 : 0 ≤ a ∨ a < 0 := by omega
    rcases h5 with h5 | h5
    · omega
    · have h6 : 0 ≤ (-a).tdiv b := Int.tdiv_nonneg (by omega) (by omega)
      rw [Int.neg_tdiv] at h6
      omega
theorem gf_l_div {a b : Int} (ha : gf_RL a) (h0 : 0 ≤ a) (hb : 0 < b) (hb2 : gf_RL b) : gf_l a / gf_l b = gf_l (a / b) := by
  rw [gf_l_tdiv ha hb hb2, Int.tdiv_eq_ediv_of_nonneg h0]
theorem gf_l_rem {a b : Int} (ha : gf_RL a) (h0 : 0 ≤ a) (hb : 0 < b) (hb2 : gf_RL b) : gf_l a - gf_l a / gf_l b * gf_l b = gf_l (a % b) := by
  rw [gf_l_div ha h0 hb hb2]
  unfold gf_l
  rw [← Int64.ofInt_mul, ← Int64.ofInt_sub]
  congr 1
  rw [Int.emod_def, Int.mul_comm]
theorem gf_i2l {a : Int} (ha : gf_R a) : (gf_i a).toInt64 = gf_l a := Int32.toInt64_ofInt (by rw [Int32.toInt_minValue]; omega) (by rw [Int32.toInt_maxValue]; omega)
theorem gf_l2i (a : Int) : (gf_l a).toInt32 = gf_i a := Int64.toInt32_ofInt
/-- an integer cut to an int -/
def gf_w (x : Int) : Int := (Int32.ofInt x).toInt
theorem gf_w_i (x : Int) : gf_i (gf_w x) = gf_i x := by unfold gf_i gf_w; exact Int32.ofInt_toInt _
theorem gf_w_R (x : Int) : gf_R (gf_w x) := gf_i_rng _
theorem gf_w_id {x : Int} (h : gf_R x) : gf_w x = x := gf_i_toInt h
def gf_wl (x : Int) : Int := (Int64.ofInt x).toInt
theorem gf_wl_l (x : Int) : gf_l (gf_wl x) = gf_l x := by unfold gf_l gf_wl; exact Int64.ofInt_toInt _
theorem gf_wl_R (x : Int) : gf_RL (gf_wl x) := by
  have h1 := Int64.le_toInt (Int64.ofInt x)
  have h2 := Int64.toInt_lt (Int64.ofInt x)
  unfold gf_wl
  omega
def gf_b (x : Int) : Int := (Int8.ofInt x).toInt
theorem gf_b_i (x : Int) : (gf_i x).toInt8.toInt32 = gf_i (gf_b x) := by
  unfold gf_i gf_b
  rw [Int32.toInt8_ofInt]
  exact (Int32.ofInt_int8ToInt _).symm
theorem gf_b_R (x : Int) : -128 ≤ gf_b x ∧ gf_b x ≤ 127 := by
  have h1 := Int8.le_toInt (Int8.ofInt x)
  have h2 := Int8.toInt_lt (Int8.ofInt x)
  unfold gf_b
  omega
/-! the world: cell k of the run stands at the address base + k; its slots are integers -/
abbrev gf_M : Type := Int → Int → Int
/-- base, classes and slots, array classes (int, long, byte, Row, Guard, Writing), the addresses of LETTERS and ABOVE -/
abbrev gf_E : Type := Nat × va_G × (Nat → ClassId) × Nat × Nat
def gf_A (E : gf_E) : Nat → Prop := fun q => E.1 ≤ q
def gf_up (μ : gf_M) (k j v : Int) : gf_M := fun a b => if a = k ∧ b = j then v else μ a b
theorem gf_up_s {μ : gf_M} {k j v : Int} : gf_up μ k j v k j = v := by simp [gf_up]
theorem gf_up_k {μ : gf_M} {k j v a b : Int} (h : a ≠ k) : gf_up μ k j v a b = μ a b := by simp [gf_up, h]
theorem gf_up_j {μ : gf_M} {k j v a b : Int} (h : b ≠ j) : gf_up μ k j v a b = μ a b := by simp [gf_up, h]
theorem gf_up_row {μ : gf_M} {k j v a : Int} (h : a ≠ k) : gf_up μ k j v a = μ a := by funext b; exact gf_up_k h
def gf_ad (E : gf_E) (k : Int) : Nat := E.1 + k.toNat
def gf_rf (E : gf_E) (x : Int) : Option Nat := if x < 0 then none else some (gf_ad E x)
def gf_sh (k : Int) : Nat × Nat × Nat := gf_shL.getD k.toNat (9, 0, 0)
def gf_ref (k j : Int) : Int := (gf_rfL.getD k.toNat []).getD j.toNat (-1)
def gf_ft (c j : Nat) : Nat := (gf_ftL.getD c []).getD j 0
def gf_fv (E : gf_E) (t : Nat) (r m : Int) : Value := match t with
  | 0 => .int (gf_i m)
  | 1 => .long (gf_l m)
  | _ => va_rf (gf_rf E r)
def gf_cell (E : gf_E) (sh : Nat × Nat × Nat) (r m : Int → Int) : va_E := match sh with
  | (0, c, N) => .inr (c, (List.range N).map fun j => gf_fv E (gf_ft c j) (r j) (m j))
  | (1, _, N) => .inl (E.2.2.1 0, N, .inl fun j => gf_i (m j))
  | (2, _, N) => .inl (E.2.2.1 1, N, .inr (.inl fun j => gf_l (m j)))
  | (3, _, N) => .inl (E.2.2.1 2, N, .inl fun j => gf_i (m j))
  | (_, c, N) => .inl (E.2.2.1 c, N, .inr (.inr (.inr (.inr fun j => gf_rf E (r j)))))
def gf_ws (E : gf_E) (n : Nat) (ρ μ : gf_M) : va_W := (List.range n).map fun k => (E.1 + k, gf_cell E (gf_sh k) (ρ k) (μ k))
def gf_tys (E : gf_E) : List (ClassId × FieldType) := [(E.2.2.1 0, .int), (E.2.2.1 1, .long), (E.2.2.1 2, .byte), (E.2.2.1 3, .object "GuardFigures$Row"), (E.2.2.1 4, .object "GuardFigures$Guard"), (E.2.2.1 5, .object "GuardFigures$Writing")]
/-- whether the slot holds a long -/
def gf_lg (k j : Int) : Bool := match gf_sh k with
  | (0, c, _) => gf_ft c j.toNat == 1
  | (2, _, _) => true
  | _ => false
def gf_rg (k j x : Int) : Prop := if gf_lg k j = true then gf_RL x else gf_R x
/-- while cells are still made, the next one's address is known -/
def gf_W (E : gf_E) (n : Nat) (ρ μ : gf_M) (H : Heap) : Prop := (n < 81 → H.size = E.1 + n) ∧ va_P E.2.1 gf_cls (gf_ws E n ρ μ) H ∧ ∀ k j : Int, gf_rg k j (μ k j)
theorem gf_ws_get {E : gf_E} {n : Nat} {ρ μ : gf_M} {k : Int} (h0 : 0 ≤ k) (h1 : k < n) : (gf_ws E n ρ μ)[k.toNat]? = some (gf_ad E k, gf_cell E (gf_sh k) (ρ k) (μ k)) := by
  have h2 : k.toNat < n := by omega
  have h3 : ((k.toNat : Nat) : Int) = k := by omega
  simp only [gf_ws, List.getElem?_map, List.getElem?_range h2, Option.map_some, h3, gf_ad]
theorem gf_ws_len {E : gf_E} {n : Nat} {ρ μ : gf_M} : (gf_ws E n ρ μ).length = n := by simp [gf_ws]
theorem gf_ws_at {E : gf_E} {n i : Nat} {ρ μ : gf_M} {q : Nat × va_E} (h : (gf_ws E n ρ μ)[i]? = some q) : i < n ∧ q = (E.1 + i, gf_cell E (gf_sh i) (ρ i) (μ i)) := by
  have hl : i < n := by have := (List.getElem?_eq_some_iff.mp h).1; rwa [gf_ws_len] at this
  refine ⟨hl, ?_⟩
  simp only [gf_ws, List.getElem?_map, List.getElem?_range hl, Option.map_some] at h
  exact (Option.some.inj h).symm
theorem gf_D {E : gf_E} {n : Nat} {ρ μ : gf_M} : va_D (gf_A E) (gf_ws E n ρ μ) := by
  refine ⟨fun i j x y hi hj hxy => ?_, fun k q hk => ?_⟩
  · rw [(gf_ws_at hi).2, (gf_ws_at hj).2] at hxy
    have : E.1 + i = E.1 + j := hxy
    omega
  · rw [(gf_ws_at hk).2]
    exact Nat.le_add_right _ _
theorem gf_ws_set {E : gf_E} {n : Nat} {ρ μ ρ' μ' : gf_M} {k : Int} {e : va_E} (h0 : 0 ≤ k) (h1 : k < n) (he : e = gf_cell E (gf_sh k) (ρ' k) (μ' k)) (hm : ∀ a : Int, a ≠ k → μ' a = μ a) (hr : ∀ a : Int, a ≠ k → ρ' a = ρ a) : (gf_ws E n ρ μ).set k.toNat (gf_ad E k, e) = gf_ws E n ρ' μ' := by
  apply List.ext_getElem?
  intro i
  by_cases hi : i = k.toNat
  · subst hi
    rw [List.getElem?_set_self (by rw [gf_ws_len]; omega), gf_ws_get h0 h1, he]
  · rw [List.getElem?_set_ne (Ne.symm hi)]
    have hik : (i : Int) ≠ k := by omega
    simp only [gf_ws, List.getElem?_map]
    by_cases hl : i < n
    · simp only [List.getElem?_range hl, Option.map_some, hm _ hik, hr _ hik]
    · have : (List.range n)[i]? = none := by simp; omega
      simp [this]
theorem gf_rg_up {μ : gf_M} {k j v : Int} (h : ∀ a b : Int, gf_rg a b (μ a b)) (hv : gf_rg k j v) : ∀ a b : Int, gf_rg a b (gf_up μ k j v a b) := by
  intro a b
  by_cases hab : a = k ∧ b = j
  · obtain ⟨rfl, rfl⟩ := hab
    rw [gf_up_s]
    exact hv
  · have : gf_up μ k j v a b = μ a b := by simp [gf_up, hab]
    rw [this]
    exact h a b
theorem gf_rg_R {k j x : Int} (h : gf_R x) : gf_rg k j x := by
  unfold gf_rg
  split
  · omega
  · exact h
end
section
/-! a run of a method in this world, and a row for each instruction -/
/-- program, launch, environment, room, start, method, arguments, frames below, method's record, code -/
abbrev gf_X : Type := Program × Launch × Env × Room × State × MethodId × Array Value × List Frame × Method × Code
def gf_xs (X : gf_X) : State := X.2.2.2.2.1
def gf_xm (X : gf_X) : MethodId := X.2.2.2.2.2.1
def gf_xa (X : gf_X) : Array Value := X.2.2.2.2.2.2.1
def gf_xl (X : gf_X) : Launch := X.2.1
def gf_Wx (X : gf_X) (H : Heap) (locs : List Loc) (cells slots : Nat) (Q : State → Prop) (g : JFrame) : Prop :=
  W X.1 X.2.1 X.2.2.1 X.2.2.2.1 X.2.2.2.2.1 X.2.2.2.2.2.1 X.2.2.2.2.2.2.1 X.2.2.2.2.2.2.2.1 X.2.2.2.2.2.2.2.2.1 X.2.2.2.2.2.2.2.2.2 H locs cells slots Q g
/-- new cells and slots so far, cells in all, what refers to what -/
abbrev gf_F : Type := Nat × Nat × Nat × gf_M
def gf_G (X : gf_X) (E : gf_E) (Q : State → Prop) (nL : Nat) (φ : gf_F) (μ : gf_M) (pc : Nat) (lv : List (Nat × Value)) (st : List Value) : Prop :=
  ∀ (H : Heap) (locs : List Loc) (ls : Array Slot), lv_has ls nL lv → gf_W E φ.2.2.1 φ.2.2.2 μ H → va_S (gf_A E) (gf_xs X).heap H locs → gf_Wx X H locs φ.1 φ.2.1 Q (F0 (gf_xm X) pc ls st)
def gf_LET (j : Nat) : Value := .int (gf_i (([103, 101, 99, 104, 98, 100] : List Int).getD j 0))
def gf_ABO (j : Nat) : Value := .int (gf_i (([-1, 0, 0, 0, 1, 2] : List Int).getD j 0))
/-- the static tables and the links between nest mates -/
def gf_S (E : gf_E) (U : State) (H : Heap) : Prop :=
  va_Z "GuardFigures" "LETTERS" "[I" (.ref E.2.2.2.1) (gf_A E) U H ∧ va_T .int E.2.2.2.1 6 gf_LET (gf_A E) U H ∧
  va_Z "GuardFigures" "ABOVE" "[I" (.ref E.2.2.2.2) (gf_A E) U H ∧ va_T .int E.2.2.2.2 6 gf_ABO (gf_A E) U H ∧
  va_Nw (.fieldLinkNest "GuardFigures$Reader" 52 "GuardFigures" "LETTERS" "[I" "GuardFigures") U ∧ va_Nw (.fieldLinkNest "GuardFigures$Guard" 21 "GuardFigures" "ABOVE" "[I" "GuardFigures") U ∧
  va_Nw (.methodLinkNest "GuardFigures" 27 yy_Gd_init "GuardFigures") U ∧ va_Nw (.methodLinkNest "GuardFigures$Reader" 17 yy_Gd_init "GuardFigures") U ∧
  va_Nw (.methodLinkNest "GuardFigures$Reader" 39 yy_Fi_isWithin "GuardFigures") U ∧ va_Nw (.methodLinkNest "GuardFigures$Watch" 79 yy_Fi_exchange "GuardFigures") U ∧
  va_Nw (.methodLinkNest "GuardFigures$Outlook" 93 yy_Fi_isWithin "GuardFigures") U ∧ va_Nw (.methodLinkNest "GuardFigures$Writing" 39 yy_Fi_isWithin "GuardFigures") U
def gf_U (E : gf_E) (n : Nat) (ρ μ : gf_M) (U : State) : Prop := gf_W E n ρ μ U.heap ∧ va_K E.2.1 gf_cls (gf_tys E) U ∧ gf_S E U U.heap
/-- what holds all through a method's run -/
def gf_C (X : gf_X) (E : gf_E) (cc : ByteArray) (nL : Nat) (own : String) (rm : Room) : Prop :=
  X.1.tables.exec = Jvm.exec ∧ X.2.2.2.2.2.2.2.2.2.code = cc ∧ X.2.2.2.2.2.2.2.2.2.maxLocals = nL ∧ X.2.2.2.2.1.vm.findClass own = some X.2.2.2.2.2.1.cls ∧ (∀ w ∈ gf_tbl, w.before X.2.2.2.2.2.2.1 X.2.2.2.2.1 = true) ∧
  va_K E.2.1 gf_cls (gf_tys E) X.2.2.2.2.1 ∧ gf_S E X.2.2.2.2.1 X.2.2.2.2.1.heap ∧ X.2.2.2.1 = rm ∧ E.1 ≤ X.2.2.2.2.1.heap.size
theorem gf_K {X : gf_X} {E : gf_E} {cc : ByteArray} {nL : Nat} {own : String} {rm : Room} (C : gf_C X E cc nL own rm) : va_K E.2.1 gf_cls (gf_tys E) X.2.2.2.2.1 := C.2.2.2.2.2.1
/-- cell k is there and of a shape -/
abbrev gf_is (n : Nat) (k : Int) (a b c : Nat) : Prop := 0 ≤ k ∧ k < (n : Int) ∧ gf_sh k = (a, b, c)
section GF1
variable {X : gf_X} {E : gf_E} {Q : State → Prop} {nL : Nat} {φ : gf_F} {μ : gf_M} {pc : Nat} {lv : List (Nat × Value)} {st : List Value} {cc : ByteArray} {own : String} {rm : Room}
theorem gf_nm {x : Int} (kk : ∀ y : Int, y = x → gf_G X E Q nL φ μ pc lv (.int (gf_i y) :: st)) : gf_G X E Q nL φ μ pc lv (.int (gf_i x) :: st) := kk x rfl
theorem gf_nml {x : Int} (kk : ∀ y : Int, y = x → gf_G X E Q nL φ μ pc lv (.long (gf_l y) :: st)) : gf_G X E Q nL φ μ pc lv (.long (gf_l x) :: st) := kk x rfl
theorem gf_nmM (kk : ∀ m : gf_M, m = μ → gf_G X E Q nL φ m pc lv st) : gf_G X E Q nL φ μ pc lv st := kk μ rfl
/-- the number on top, by another text -/
theorem gf_cv {x y : Int} (h : x = y) (kk : gf_G X E Q nL φ μ pc lv (.int (gf_i y) :: st)) : gf_G X E Q nL φ μ pc lv (.int (gf_i x) :: st) := h ▸ kk
theorem gf_cvl {x y : Int} (h : x = y) (kk : gf_G X E Q nL φ μ pc lv (.long (gf_l y) :: st)) : gf_G X E Q nL φ μ pc lv (.long (gf_l x) :: st) := h ▸ kk
theorem gf_lsub {lv' : List (Nat × Value)} (ks : List Nat) (h : lv_pick lv ks = lv') (kk : gf_G X E Q nL φ μ pc lv' st) : gf_G X E Q nL φ μ pc lv st := fun H locs ls hl hW hS => kk H locs ls (lv_sub hl ks h) hW hS
theorem gf_iconst {n : Int} (C : gf_C X E cc nL own rm) (d : decode cc pc = .ok (.iconst n, 1)) (kk : gf_G X E Q nL φ μ (pc + 1) lv (.int (gf_i n) :: st)) : gf_G X E Q nL φ μ pc lv st :=
  fun H locs ls hl hW hS => lv_iconst C.1 C.2.1 d rfl (kk H locs ls hl hW hS)
theorem gf_bipush {n : Int} (C : gf_C X E cc nL own rm) (d : decode cc pc = .ok (.bipush n, 2)) (hn : (Int8.ofInt n).toInt32 = gf_i n) (kk : gf_G X E Q nL φ μ (pc + 2) lv (.int (gf_i n) :: st)) : gf_G X E Q nL φ μ pc lv st :=
  fun H locs ls hl hW hS => lv_bipush C.1 C.2.1 d hn (kk H locs ls hl hW hS)
theorem gf_sipush {n : Int} (C : gf_C X E cc nL own rm) (d : decode cc pc = .ok (.sipush n, 3)) (hn : (Int16.ofInt n).toInt32 = gf_i n) (kk : gf_G X E Q nL φ μ (pc + 3) lv (.int (gf_i n) :: st)) : gf_G X E Q nL φ μ pc lv st :=
  fun H locs ls hl hW hS => lv_sipush C.1 C.2.1 d hn (kk H locs ls hl hW hS)
theorem gf_lconst {n : Fin 2} (x : Int) (C : gf_C X E cc nL own rm) (d : decode cc pc = .ok (.lconst n, 1)) (hn : Int64.ofNat (n : Nat) = gf_l x) (kk : gf_G X E Q nL φ μ (pc + 1) lv (.long (gf_l x) :: st)) : gf_G X E Q nL φ μ pc lv st :=
  fun H locs ls hl hW hS => lv_lconst C.1 C.2.1 d hn (kk H locs ls hl hW hS)
theorem gf_ldc2 {index : Nat} {v : Int64} (x : Int) (C : gf_C X E cc nL own rm) (d : decode cc pc = .ok (.ldc2_w index, 3)) (hw : Cond.constantLong own index v ∈ gf_tbl) (hn : v = gf_l x) (kk : gf_G X E Q nL φ μ (pc + 3) lv (.long (gf_l x) :: st)) : gf_G X E Q nL φ μ pc lv st := by
  subst hn
  exact fun H locs ls hl hW hS => lv_ldc2 C.1 C.2.1 C.2.2.2.1 (C.2.2.2.2.1 _ hw) d (kk H locs ls hl hW hS)
theorem gf_iload_n {k : Fin 4} {x : Int} (C : gf_C X E cc nL own rm) (d : decode cc pc = .ok (.iload_n k, 1)) (q : Nat) (h : lv[q]? = some ((k : Nat), .int (gf_i x))) (kk : gf_G X E Q nL φ μ (pc + 1) lv (.int (gf_i x) :: st)) : gf_G X E Q nL φ μ pc lv st :=
  fun H locs ls hl hW hS => lv_iload_n C.1 C.2.1 d rfl (lv_at hl q h) (kk H locs ls hl hW hS)
theorem gf_iload {k : Nat} {x : Int} (C : gf_C X E cc nL own rm) (d : decode cc pc = .ok (.iload k, 2)) (q : Nat) (h : lv[q]? = some (k, .int (gf_i x))) (kk : gf_G X E Q nL φ μ (pc + 2) lv (.int (gf_i x) :: st)) : gf_G X E Q nL φ μ pc lv st :=
  fun H locs ls hl hW hS => lv_iload C.1 C.2.1 d (lv_at hl q h) (kk H locs ls hl hW hS)
theorem gf_lload_n {k : Fin 4} {x : Int} (C : gf_C X E cc nL own rm) (d : decode cc pc = .ok (.lload_n k, 1)) (q : Nat) (h : lv[q]? = some ((k : Nat), .long (gf_l x))) (kk : gf_G X E Q nL φ μ (pc + 1) lv (.long (gf_l x) :: st)) : gf_G X E Q nL φ μ pc lv st :=
  fun H locs ls hl hW hS => lv_lload_n C.1 C.2.1 d rfl (lv_at hl q h) (kk H locs ls hl hW hS)
theorem gf_lload {k : Nat} {x : Int} (C : gf_C X E cc nL own rm) (d : decode cc pc = .ok (.lload k, 2)) (q : Nat) (h : lv[q]? = some (k, .long (gf_l x))) (kk : gf_G X E Q nL φ μ (pc + 2) lv (.long (gf_l x) :: st)) : gf_G X E Q nL φ μ pc lv st :=
  fun H locs ls hl hW hS => lv_lload C.1 C.2.1 d (lv_at hl q h) (kk H locs ls hl hW hS)
theorem gf_aload_n {k : Fin 4} {x : Nat} (C : gf_C X E cc nL own rm) (d : decode cc pc = .ok (.aload_n k, 1)) (q : Nat) (h : lv[q]? = some ((k : Nat), .ref x)) (kk : gf_G X E Q nL φ μ (pc + 1) lv (.ref x :: st)) : gf_G X E Q nL φ μ pc lv st :=
  fun H locs ls hl hW hS => lv_aload_n C.1 C.2.1 d rfl (lv_at hl q h) (kk H locs ls hl hW hS)
theorem gf_aload {k x : Nat} (C : gf_C X E cc nL own rm) (d : decode cc pc = .ok (.aload k, 2)) (q : Nat) (h : lv[q]? = some (k, .ref x)) (kk : gf_G X E Q nL φ μ (pc + 2) lv (.ref x :: st)) : gf_G X E Q nL φ μ pc lv st :=
  fun H locs ls hl hW hS => lv_aload C.1 C.2.1 d (lv_at hl q h) (kk H locs ls hl hW hS)
theorem gf_istore_n {k : Fin 4} {x : Int} {lv' : List (Nat × Value)} (C : gf_C X E cc nL own rm) (d : decode cc pc = .ok (.istore_n k, 1)) (hn : (k : Nat) < nL) (hl' : ((k : Nat), Value.int (gf_i x)) :: lv.filter (fun q => !(q.1 == (k : Nat)) && !(q.1 + 1 == (k : Nat) && q.2.category == 2)) = lv') (kk : gf_G X E Q nL φ μ (pc + 1) lv' st) : gf_G X E Q nL φ μ pc lv (.int (gf_i x) :: st) :=
  fun H locs ls hl hW hS => lv_istore_n C.1 C.2.1 d rfl hl hn hl' (fun ls' h' => kk H locs ls' h' hW hS)
theorem gf_istore {k : Nat} {x : Int} {lv' : List (Nat × Value)} (C : gf_C X E cc nL own rm) (d : decode cc pc = .ok (.istore k, 2)) (hn : k < nL) (hl' : (k, Value.int (gf_i x)) :: lv.filter (fun q => !(q.1 == k) && !(q.1 + 1 == k && q.2.category == 2)) = lv') (kk : gf_G X E Q nL φ μ (pc + 2) lv' st) : gf_G X E Q nL φ μ pc lv (.int (gf_i x) :: st) :=
  fun H locs ls hl hW hS => lv_istore C.1 C.2.1 d hl hn hl' (fun ls' h' => kk H locs ls' h' hW hS)
theorem gf_lstore_n {k : Fin 4} {x : Int} {lv' : List (Nat × Value)} (C : gf_C X E cc nL own rm) (d : decode cc pc = .ok (.lstore_n k, 1)) (hn : (k : Nat) + 1 < nL) (hl' : ((k : Nat), Value.long (gf_l x)) :: lv.filter (fun q => !(q.1 == (k : Nat)) && (!(q.1 == (k : Nat) + 1) && !(q.1 + 1 == (k : Nat) && q.2.category == 2))) = lv') (kk : gf_G X E Q nL φ μ (pc + 1) lv' st) : gf_G X E Q nL φ μ pc lv (.long (gf_l x) :: st) :=
  fun H locs ls hl hW hS => lv_lstore_n C.1 C.2.1 d rfl hl hn hl' (fun ls' h' => kk H locs ls' h' hW hS)
theorem gf_lstore {k : Nat} {x : Int} {lv' : List (Nat × Value)} (C : gf_C X E cc nL own rm) (d : decode cc pc = .ok (.lstore k, 2)) (hn : k + 1 < nL) (hl' : (k, Value.long (gf_l x)) :: lv.filter (fun q => !(q.1 == k) && (!(q.1 == k + 1) && !(q.1 + 1 == k && q.2.category == 2))) = lv') (kk : gf_G X E Q nL φ μ (pc + 2) lv' st) : gf_G X E Q nL φ μ pc lv (.long (gf_l x) :: st) :=
  fun H locs ls hl hW hS => lv_lstore C.1 C.2.1 d hl hn hl' (fun ls' h' => kk H locs ls' h' hW hS)
theorem gf_astore_n {k : Fin 4} {x : Nat} {lv' : List (Nat × Value)} (C : gf_C X E cc nL own rm) (d : decode cc pc = .ok (.astore_n k, 1)) (hn : (k : Nat) < nL) (hl' : ((k : Nat), Value.ref x) :: lv.filter (fun q => !(q.1 == (k : Nat)) && !(q.1 + 1 == (k : Nat) && q.2.category == 2)) = lv') (kk : gf_G X E Q nL φ μ (pc + 1) lv' st) : gf_G X E Q nL φ μ pc lv (.ref x :: st) :=
  fun H locs ls hl hW hS => lv_astore_n C.1 C.2.1 d rfl hl hn hl' (fun ls' h' => kk H locs ls' h' hW hS)
theorem gf_astore {k x : Nat} {lv' : List (Nat × Value)} (C : gf_C X E cc nL own rm) (d : decode cc pc = .ok (.astore k, 2)) (hn : k < nL) (hl' : (k, Value.ref x) :: lv.filter (fun q => !(q.1 == k) && !(q.1 + 1 == k && q.2.category == 2)) = lv') (kk : gf_G X E Q nL φ μ (pc + 2) lv' st) : gf_G X E Q nL φ μ pc lv (.ref x :: st) :=
  fun H locs ls hl hW hS => lv_astore C.1 C.2.1 d hl hn hl' (fun ls' h' => kk H locs ls' h' hW hS)
theorem gf_iinc {i q : Nat} {n x v : Int} {lv' : List (Nat × Value)} (C : gf_C X E cc nL own rm) (d : decode cc pc = .ok (.iinc i n, 3)) (hk : lv[q]? = some (i, .int (gf_i x))) (hv : v = x + n) (hn : i < nL) (hl' : (i, Value.int (gf_i v)) :: lv.filter (fun q => !(q.1 == i) && !(q.1 + 1 == i && q.2.category == 2)) = lv') (kk : gf_G X E Q nL φ μ (pc + 3) lv' st) : gf_G X E Q nL φ μ pc lv st :=
  fun H locs ls hl hW hS => lv_iinc C.1 C.2.1 d hl hk (by rw [hv]; exact (Int32.ofInt_add x n).symm) hn hl' (fun ls' h' => kk H locs ls' h' hW hS)
theorem gf_iadd {x y : Int} (C : gf_C X E cc nL own rm) (d : decode cc pc = .ok (.iadd, 1)) (kk : gf_G X E Q nL φ μ (pc + 1) lv (.int (gf_i (x + y)) :: st)) : gf_G X E Q nL φ μ pc lv (.int (gf_i y) :: .int (gf_i x) :: st) :=
  fun H locs ls hl hW hS => lv_iadd C.1 C.2.1 d (by have := kk H locs ls hl hW hS; rw [gf_i, Int32.ofInt_add] at this; exact this)
theorem gf_isub {x y : Int} (C : gf_C X E cc nL own rm) (d : decode cc pc = .ok (.isub, 1)) (kk : gf_G X E Q nL φ μ (pc + 1) lv (.int (gf_i (x - y)) :: st)) : gf_G X E Q nL φ μ pc lv (.int (gf_i y) :: .int (gf_i x) :: st) :=
  fun H locs ls hl hW hS => lv_isub C.1 C.2.1 d (by have := kk H locs ls hl hW hS; rw [gf_i, Int32.ofInt_sub] at this; exact this)
theorem gf_imul {x y : Int} (C : gf_C X E cc nL own rm) (d : decode cc pc = .ok (.imul, 1)) (kk : gf_G X E Q nL φ μ (pc + 1) lv (.int (gf_i (x * y)) :: st)) : gf_G X E Q nL φ μ pc lv (.int (gf_i y) :: .int (gf_i x) :: st) :=
  fun H locs ls hl hW hS => lv_imul C.1 C.2.1 d (by have := kk H locs ls hl hW hS; rw [gf_i, Int32.ofInt_mul] at this; exact this)
theorem gf_ineg {x : Int} (C : gf_C X E cc nL own rm) (d : decode cc pc = .ok (.ineg, 1)) (kk : gf_G X E Q nL φ μ (pc + 1) lv (.int (gf_i (-x)) :: st)) : gf_G X E Q nL φ μ pc lv (.int (gf_i x) :: st) :=
  fun H locs ls hl hW hS => lv_ineg C.1 C.2.1 d (by have := kk H locs ls hl hW hS; rw [gf_i, Int32.ofInt_neg] at this; exact this)
theorem gf_idiv {x y : Int} (C : gf_C X E cc nL own rm) (d : decode cc pc = .ok (.idiv, 1)) (hx : gf_R x ∧ 0 ≤ x ∧ 0 < y ∧ gf_R y) (kk : gf_G X E Q nL φ μ (pc + 1) lv (.int (gf_i (x / y)) :: st)) : gf_G X E Q nL φ μ pc lv (.int (gf_i y) :: .int (gf_i x) :: st) :=
  fun H locs ls hl hW hS => lv_idiv C.1 C.2.1 d (fun h => by rw [← gf_i0, gf_i_eq hx.2.2.2 (by decide)] at h; omega) (by rw [gf_i_div hx.1 hx.2.1 hx.2.2.1 hx.2.2.2]; exact kk H locs ls hl hW hS)
theorem gf_irem {x y : Int} (C : gf_C X E cc nL own rm) (d : decode cc pc = .ok (.irem, 1)) (hx : gf_R x ∧ 0 ≤ x ∧ 0 < y ∧ gf_R y) (kk : gf_G X E Q nL φ μ (pc + 1) lv (.int (gf_i (x % y)) :: st)) : gf_G X E Q nL φ μ pc lv (.int (gf_i y) :: .int (gf_i x) :: st) :=
  fun H locs ls hl hW hS => lv_irem C.1 C.2.1 d (fun h => by rw [← gf_i0, gf_i_eq hx.2.2.2 (by decide)] at h; omega) (by rw [gf_i_rem hx.1 hx.2.1 hx.2.2.1 hx.2.2.2]; exact kk H locs ls hl hW hS)
theorem gf_ladd {x y : Int} (C : gf_C X E cc nL own rm) (d : decode cc pc = .ok (.ladd, 1)) (kk : gf_G X E Q nL φ μ (pc + 1) lv (.long (gf_l (x + y)) :: st)) : gf_G X E Q nL φ μ pc lv (.long (gf_l y) :: .long (gf_l x) :: st) :=
  fun H locs ls hl hW hS => lv_ladd C.1 C.2.1 d (by have := kk H locs ls hl hW hS; rw [gf_l, Int64.ofInt_add] at this; exact this)
theorem gf_lsb {x y : Int} (C : gf_C X E cc nL own rm) (d : decode cc pc = .ok (.lsub, 1)) (kk : gf_G X E Q nL φ μ (pc + 1) lv (.long (gf_l (x - y)) :: st)) : gf_G X E Q nL φ μ pc lv (.long (gf_l y) :: .long (gf_l x) :: st) :=
  fun H locs ls hl hW hS => lv_lsub C.1 C.2.1 d (by have := kk H locs ls hl hW hS; rw [gf_l, Int64.ofInt_sub] at this; exact this)
theorem gf_lmul {x y : Int} (C : gf_C X E cc nL own rm) (d : decode cc pc = .ok (.lmul, 1)) (kk : gf_G X E Q nL φ μ (pc + 1) lv (.long (gf_l (x * y)) :: st)) : gf_G X E Q nL φ μ pc lv (.long (gf_l y) :: .long (gf_l x) :: st) :=
  fun H locs ls hl hW hS => lv_lmul C.1 C.2.1 d (by have := kk H locs ls hl hW hS; rw [gf_l, Int64.ofInt_mul] at this; exact this)
theorem gf_l0 : gf_l 0 = 0 := by decide +kernel
theorem gf_ldiv {x y : Int} (C : gf_C X E cc nL own rm) (d : decode cc pc = .ok (.ldiv, 1)) (hx : gf_RL x ∧ 0 < y ∧ gf_RL y) (kk : gf_G X E Q nL φ μ (pc + 1) lv (.long (gf_l (x.tdiv y)) :: st)) : gf_G X E Q nL φ μ pc lv (.long (gf_l y) :: .long (gf_l x) :: st) :=
  fun H locs ls hl hW hS => lv_ldiv C.1 C.2.1 d (fun h => by rw [← gf_l0, gf_l_eq hx.2.2 (by decide)] at h; omega) (by rw [gf_l_tdiv hx.1 hx.2.1 hx.2.2]; exact kk H locs ls hl hW hS)
theorem gf_lrem {x y : Int} (C : gf_C X E cc nL own rm) (d : decode cc pc = .ok (.lrem, 1)) (hx : gf_RL x ∧ 0 ≤ x ∧ 0 < y ∧ gf_RL y) (kk : gf_G X E Q nL φ μ (pc + 1) lv (.long (gf_l (x % y)) :: st)) : gf_G X E Q nL φ μ pc lv (.long (gf_l y) :: .long (gf_l x) :: st) :=
  fun H locs ls hl hW hS => lv_lrem C.1 C.2.1 d (fun h => by rw [← gf_l0, gf_l_eq hx.2.2.2 (by decide)] at h; omega) (by rw [gf_l_rem hx.1 hx.2.1 hx.2.2.1 hx.2.2.2]; exact kk H locs ls hl hW hS)
theorem gf_gi2l {x : Int} (C : gf_C X E cc nL own rm) (d : decode cc pc = .ok (.i2l, 1)) (hx : gf_R x) (kk : gf_G X E Q nL φ μ (pc + 1) lv (.long (gf_l x) :: st)) : gf_G X E Q nL φ μ pc lv (.int (gf_i x) :: st) :=
  fun H locs ls hl hW hS => lv_i2l C.1 C.2.1 d (gf_i2l hx) (kk H locs ls hl hW hS)
theorem gf_gl2i {x : Int} (C : gf_C X E cc nL own rm) (d : decode cc pc = .ok (.l2i, 1)) (kk : gf_G X E Q nL φ μ (pc + 1) lv (.int (gf_i x) :: st)) : gf_G X E Q nL φ μ pc lv (.long (gf_l x) :: st) :=
  fun H locs ls hl hW hS => lv_l2i C.1 C.2.1 d (gf_l2i x) (kk H locs ls hl hW hS)
theorem gf_gi2b {x : Int} (C : gf_C X E cc nL own rm) (d : decode cc pc = .ok (.i2b, 1)) (kk : gf_G X E Q nL φ μ (pc + 1) lv (.int (gf_i (gf_b x)) :: st)) : gf_G X E Q nL φ μ pc lv (.int (gf_i x) :: st) :=
  fun H locs ls hl hW hS => lv_i2b C.1 C.2.1 d (gf_b_i x) (kk H locs ls hl hW hS)
theorem gf_dup {v : Value} (C : gf_C X E cc nL own rm) (d : decode cc pc = .ok (.dup, 1)) (h : v.category = 1) (kk : gf_G X E Q nL φ μ (pc + 1) lv (v :: v :: st)) : gf_G X E Q nL φ μ pc lv (v :: st) :=
  fun H locs ls hl hW hS => lv_dup C.1 C.2.1 d h (kk H locs ls hl hW hS)
theorem gf_dup2 {v w : Value} (C : gf_C X E cc nL own rm) (d : decode cc pc = .ok (.dup2, 1)) (h : v.category = 1) (h2 : w.category = 1) (kk : gf_G X E Q nL φ μ (pc + 1) lv (v :: w :: v :: w :: st)) : gf_G X E Q nL φ μ pc lv (v :: w :: st) :=
  fun H locs ls hl hW hS => lv_dup2_11 C.1 C.2.1 d h h2 (kk H locs ls hl hW hS)
theorem gf_pop {v : Value} (C : gf_C X E cc nL own rm) (d : decode cc pc = .ok (.pop, 1)) (h : v.category = 1) (kk : gf_G X E Q nL φ μ (pc + 1) lv st) : gf_G X E Q nL φ μ pc lv (v :: st) :=
  fun H locs ls hl hW hS => lv_pop C.1 C.2.1 d h (kk H locs ls hl hW hS)
theorem gf_goto {off : Int} (tgt : Nat) (C : gf_C X E cc nL own rm) (d : decode cc pc = .ok (.goto off, 3)) (ht : (pc : Int) + off = (tgt : Int)) (kk : gf_G X E Q nL φ μ tgt lv st) : gf_G X E Q nL φ μ pc lv st :=
  fun H locs ls hl hW hS => lv_goto C.1 C.2.1 d ht (kk H locs ls hl hW hS)
theorem gf_lcmp {x y : Int} (C : gf_C X E cc nL own rm) (d : decode cc pc = .ok (.lcmp, 1)) (hx : gf_RL x) (hy : gf_RL y) (kk : ∀ r : Int, (r < 0 ↔ x < y) → (r = 0 ↔ x = y) → (-1 ≤ r ∧ r ≤ 1) → gf_G X E Q nL φ μ (pc + 1) lv (.int (gf_i r) :: st)) : gf_G X E Q nL φ μ pc lv (.long (gf_l y) :: .long (gf_l x) :: st) := by
  intro H locs ls hl hW hS
  refine W.lcmp C.1 C.2.1 d ?_
  unfold lg_cmp
  by_cases h1 : y < x
  · rw [if_pos ((gf_l_lt hy hx).mpr h1)]
    exact kk 1 (by omega) (by omega) (by omega) H locs ls hl hW hS
  · rw [if_neg (fun h => h1 ((gf_l_lt hy hx).mp h))]
    by_cases h2 : x = y
    · rw [if_pos ((gf_l_eq hx hy).mpr h2)]
      exact kk 0 (by omega) (by omega) (by omega) H locs ls hl hW hS
    · rw [if_neg (fun h => h2 ((gf_l_eq hx hy).mp h))]
      exact kk (-1) (by omega) (by omega) (by omega) H locs ls hl hW hS
theorem gf_R0 : gf_R 0 := by decide
theorem gf_if_eq {x off : Int} (tgt : Nat) (C : gf_C X E cc nL own rm) (d : decode cc pc = .ok (.ifCond .eq off, 3)) (ht : (pc : Int) + off = (tgt : Int)) (hx : gf_R x) (kt : x = 0 → gf_G X E Q nL φ μ tgt lv st) (kf : ¬ (x = 0) → gf_G X E Q nL φ μ (pc + 3) lv st) : gf_G X E Q nL φ μ pc lv (.int (gf_i x) :: st) := by
  intro H locs ls hl hW hS
  have e := gf_i_eq hx gf_R0
  rw [gf_i0] at e
  exact lv_if_eq C.1 C.2.1 d ht (fun h => kt (e.mp h) H locs ls hl hW hS) (fun h => kf (fun z => h (e.mpr z)) H locs ls hl hW hS)
theorem gf_icmp_eq {x y off : Int} (tgt : Nat) (C : gf_C X E cc nL own rm) (d : decode cc pc = .ok (.if_icmp .eq off, 3)) (ht : (pc : Int) + off = (tgt : Int)) (hx : gf_R x) (hy : gf_R y) (kt : x = y → gf_G X E Q nL φ μ tgt lv st) (kf : ¬ (x = y) → gf_G X E Q nL φ μ (pc + 3) lv st) : gf_G X E Q nL φ μ pc lv (.int (gf_i y) :: .int (gf_i x) :: st) := by
  intro H locs ls hl hW hS
  have e := gf_i_eq hx hy
  exact lv_icmp_eq C.1 C.2.1 d ht (fun h => kt (e.mp h) H locs ls hl hW hS) (fun h => kf (fun z => h (e.mpr z)) H locs ls hl hW hS)
theorem gf_if_ne {x off : Int} (tgt : Nat) (C : gf_C X E cc nL own rm) (d : decode cc pc = .ok (.ifCond .ne off, 3)) (ht : (pc : Int) + off = (tgt : Int)) (hx : gf_R x) (kt : ¬ x = 0 → gf_G X E Q nL φ μ tgt lv st) (kf : x = 0 → gf_G X E Q nL φ μ (pc + 3) lv st) : gf_G X E Q nL φ μ pc lv (.int (gf_i x) :: st) := by
  intro H locs ls hl hW hS
  have e := gf_i_eq hx gf_R0
  rw [gf_i0] at e
  exact lv_if_ne C.1 C.2.1 d ht (fun h => kt (fun z => h (e.mpr z)) H locs ls hl hW hS) (fun h => kf (e.mp h) H locs ls hl hW hS)
theorem gf_icmp_ne {x y off : Int} (tgt : Nat) (C : gf_C X E cc nL own rm) (d : decode cc pc = .ok (.if_icmp .ne off, 3)) (ht : (pc : Int) + off = (tgt : Int)) (hx : gf_R x) (hy : gf_R y) (kt : ¬ x = y → gf_G X E Q nL φ μ tgt lv st) (kf : x = y → gf_G X E Q nL φ μ (pc + 3) lv st) : gf_G X E Q nL φ μ pc lv (.int (gf_i y) :: .int (gf_i x) :: st) := by
  intro H locs ls hl hW hS
  have e := gf_i_eq hx hy
  exact lv_icmp_ne C.1 C.2.1 d ht (fun h => kt (fun z => h (e.mpr z)) H locs ls hl hW hS) (fun h => kf (e.mp h) H locs ls hl hW hS)
theorem gf_if_lt {x off : Int} (tgt : Nat) (C : gf_C X E cc nL own rm) (d : decode cc pc = .ok (.ifCond .lt off, 3)) (ht : (pc : Int) + off = (tgt : Int)) (hx : gf_R x) (kt : x < 0 → gf_G X E Q nL φ μ tgt lv st) (kf : ¬ (x < 0) → gf_G X E Q nL φ μ (pc + 3) lv st) : gf_G X E Q nL φ μ pc lv (.int (gf_i x) :: st) := by
  intro H locs ls hl hW hS
  have e := gf_i_lt hx gf_R0
  rw [gf_i0] at e
  exact lv_if_lt C.1 C.2.1 d ht (fun h => kt (e.mp h) H locs ls hl hW hS) (fun h => kf (fun z => h (e.mpr z)) H locs ls hl hW hS)
theorem gf_icmp_lt {x y off : Int} (tgt : Nat) (C : gf_C X E cc nL own rm) (d : decode cc pc = .ok (.if_icmp .lt off, 3)) (ht : (pc : Int) + off = (tgt : Int)) (hx : gf_R x) (hy : gf_R y) (kt : x < y → gf_G X E Q nL φ μ tgt lv st) (kf : ¬ (x < y) → gf_G X E Q nL φ μ (pc + 3) lv st) : gf_G X E Q nL φ μ pc lv (.int (gf_i y) :: .int (gf_i x) :: st) := by
  intro H locs ls hl hW hS
  have e := gf_i_lt hx hy
  exact lv_icmp_lt C.1 C.2.1 d ht (fun h => kt (e.mp h) H locs ls hl hW hS) (fun h => kf (fun z => h (e.mpr z)) H locs ls hl hW hS)
theorem gf_if_ge {x off : Int} (tgt : Nat) (C : gf_C X E cc nL own rm) (d : decode cc pc = .ok (.ifCond .ge off, 3)) (ht : (pc : Int) + off = (tgt : Int)) (hx : gf_R x) (kt : 0 ≤ x → gf_G X E Q nL φ μ tgt lv st) (kf : ¬ (0 ≤ x) → gf_G X E Q nL φ μ (pc + 3) lv st) : gf_G X E Q nL φ μ pc lv (.int (gf_i x) :: st) := by
  intro H locs ls hl hW hS
  have e := gf_i_le gf_R0 hx
  rw [gf_i0] at e
  exact lv_if_ge C.1 C.2.1 d ht (fun h => kt (e.mp h) H locs ls hl hW hS) (fun h => kf (fun z => h (e.mpr z)) H locs ls hl hW hS)
theorem gf_icmp_ge {x y off : Int} (tgt : Nat) (C : gf_C X E cc nL own rm) (d : decode cc pc = .ok (.if_icmp .ge off, 3)) (ht : (pc : Int) + off = (tgt : Int)) (hx : gf_R x) (hy : gf_R y) (kt : y ≤ x → gf_G X E Q nL φ μ tgt lv st) (kf : ¬ (y ≤ x) → gf_G X E Q nL φ μ (pc + 3) lv st) : gf_G X E Q nL φ μ pc lv (.int (gf_i y) :: .int (gf_i x) :: st) := by
  intro H locs ls hl hW hS
  have e := gf_i_le hy hx
  exact lv_icmp_ge C.1 C.2.1 d ht (fun h => kt (e.mp h) H locs ls hl hW hS) (fun h => kf (fun z => h (e.mpr z)) H locs ls hl hW hS)
theorem gf_if_gt {x off : Int} (tgt : Nat) (C : gf_C X E cc nL own rm) (d : decode cc pc = .ok (.ifCond .gt off, 3)) (ht : (pc : Int) + off = (tgt : Int)) (hx : gf_R x) (kt : 0 < x → gf_G X E Q nL φ μ tgt lv st) (kf : ¬ (0 < x) → gf_G X E Q nL φ μ (pc + 3) lv st) : gf_G X E Q nL φ μ pc lv (.int (gf_i x) :: st) := by
  intro H locs ls hl hW hS
  have e := gf_i_lt gf_R0 hx
  rw [gf_i0] at e
  exact lv_if_gt C.1 C.2.1 d ht (fun h => kt (e.mp h) H locs ls hl hW hS) (fun h => kf (fun z => h (e.mpr z)) H locs ls hl hW hS)
theorem gf_icmp_gt {x y off : Int} (tgt : Nat) (C : gf_C X E cc nL own rm) (d : decode cc pc = .ok (.if_icmp .gt off, 3)) (ht : (pc : Int) + off = (tgt : Int)) (hx : gf_R x) (hy : gf_R y) (kt : y < x → gf_G X E Q nL φ μ tgt lv st) (kf : ¬ (y < x) → gf_G X E Q nL φ μ (pc + 3) lv st) : gf_G X E Q nL φ μ pc lv (.int (gf_i y) :: .int (gf_i x) :: st) := by
  intro H locs ls hl hW hS
  have e := gf_i_lt hy hx
  exact lv_icmp_gt C.1 C.2.1 d ht (fun h => kt (e.mp h) H locs ls hl hW hS) (fun h => kf (fun z => h (e.mpr z)) H locs ls hl hW hS)
theorem gf_if_le {x off : Int} (tgt : Nat) (C : gf_C X E cc nL own rm) (d : decode cc pc = .ok (.ifCond .le off, 3)) (ht : (pc : Int) + off = (tgt : Int)) (hx : gf_R x) (kt : x ≤ 0 → gf_G X E Q nL φ μ tgt lv st) (kf : ¬ (x ≤ 0) → gf_G X E Q nL φ μ (pc + 3) lv st) : gf_G X E Q nL φ μ pc lv (.int (gf_i x) :: st) := by
  intro H locs ls hl hW hS
  have e := gf_i_le hx gf_R0
  rw [gf_i0] at e
  exact lv_if_le C.1 C.2.1 d ht (fun h => kt (e.mp h) H locs ls hl hW hS) (fun h => kf (fun z => h (e.mpr z)) H locs ls hl hW hS)
theorem gf_icmp_le {x y off : Int} (tgt : Nat) (C : gf_C X E cc nL own rm) (d : decode cc pc = .ok (.if_icmp .le off, 3)) (ht : (pc : Int) + off = (tgt : Int)) (hx : gf_R x) (hy : gf_R y) (kt : x ≤ y → gf_G X E Q nL φ μ tgt lv st) (kf : ¬ (x ≤ y) → gf_G X E Q nL φ μ (pc + 3) lv st) : gf_G X E Q nL φ μ pc lv (.int (gf_i y) :: .int (gf_i x) :: st) := by
  intro H locs ls hl hW hS
  have e := gf_i_le hx hy
  exact lv_icmp_le C.1 C.2.1 d ht (fun h => kt (e.mp h) H locs ls hl hW hS) (fun h => kf (fun z => h (e.mpr z)) H locs ls hl hW hS)
end GF1
end
section
/-! rows of the heap: fields, arrays, statics, returns -/
/-- a class of the list, its words in the tables, its fields' types and names -/
def gf_cl (ci : Nat) (Cn : String) (T : u_T) (N : Nat) : Prop := gf_cls[ci]? = some (Cn, T, N) ∧ (∀ w ∈ u_ws Cn T N, w ∈ gf_tbl) ∧ (∃ ty0 : Nat → FieldType, ∀ k, k < N → parseFieldDescriptor (T k).2.2.1 = some (ty0 k)) ∧ (∀ a, a < N → ∀ b, b < N → a ≠ b → (T a).2.1 ≠ (T b).2.1)
theorem gf_cl0 : gf_cl 0 "GuardFigures$Guard" gf_T0 3 := ⟨rfl, gf_in0, ⟨_, gf_ty0⟩, gf_nm0⟩
theorem gf_cl1 : gf_cl 1 "GuardFigures$Outlook" gf_T1 2 := ⟨rfl, gf_in1, ⟨_, gf_ty1⟩, gf_nm1⟩
theorem gf_cl2 : gf_cl 2 "GuardFigures$Reader" gf_T2 2 := ⟨rfl, gf_in2, ⟨_, gf_ty2⟩, gf_nm2⟩
theorem gf_cl3 : gf_cl 3 "GuardFigures$Row" gf_T3 2 := ⟨rfl, gf_in3, ⟨_, gf_ty3⟩, gf_nm3⟩
theorem gf_cl4 : gf_cl 4 "GuardFigures$Watch" gf_T4 6 := ⟨rfl, gf_in4, ⟨_, gf_ty4⟩, gf_nm4⟩
theorem gf_cl5 : gf_cl 5 "GuardFigures$Writing" gf_T5 5 := ⟨rfl, gf_in5, ⟨_, gf_ty5⟩, gf_nm5⟩
theorem gf_cl6 : gf_cl 6 "GuardFigures" gf_T6 17 := ⟨rfl, gf_in6, ⟨_, gf_ty6⟩, gf_nm6⟩
theorem gf_cl7 : gf_cl 7 "GuardFiguresModel" gf_T7 26 := ⟨rfl, gf_in7, ⟨_, gf_ty7⟩, gf_nm7⟩
/-- the pool entry 'index' of the class 'own' is the field j of a class -/
def gf_fl (own : String) (index j : Nat) (T : u_T) (N : Nat) : Prop := j < N ∧ Cond.fieldLink own index (T j).1 (T j).2.1 (T j).2.2.1 ∈ gf_tbl
theorem gf_fs_at {E : gf_E} {c N j : Nat} {r m : Int → Int} (hj : j < N) : ((List.range N).map fun j => gf_fv E (gf_ft c j) (r j) (m j))[j]? = some (gf_fv E (gf_ft c j) (r j) (m j)) := by
  simp [List.getElem?_range hj]
theorem gf_fs_set {E : gf_E} {c N j : Nat} {r m r' m' : Int → Int} {v : Value} (hj : j < N) (hv : v = gf_fv E (gf_ft c j) (r' j) (m' j)) (hm : ∀ i : Nat, i ≠ j → m' i = m i) (hr : ∀ i : Nat, i ≠ j → r' i = r i) : ((List.range N).map fun j => gf_fv E (gf_ft c j) (r j) (m j)).set j v = (List.range N).map fun j => gf_fv E (gf_ft c j) (r' j) (m' j) := by
  apply List.ext_getElem?
  intro i
  by_cases hi : i = j
  · subst hi
    rw [List.getElem?_set_self (by simp; exact hj), gf_fs_at hj, hv]
  · rw [List.getElem?_set_ne (Ne.symm hi)]
    simp only [List.getElem?_map]
    by_cases hl : i < N
    · simp only [List.getElem?_range hl, Option.map_some, hm i hi, hr i hi]
    · have : (List.range N)[i]? = none := by simp; omega
      simp [this]
theorem gf_upN {μ : gf_M} {k v : Int} {j i : Nat} (h : i ≠ j) : gf_up μ k (j : Int) v k (i : Int) = μ k (i : Int) := gf_up_j (by omega)
section GF2
variable {X : gf_X} {E : gf_E} {Q : State → Prop} {nL : Nat} {φ : gf_F} {μ : gf_M} {pc : Nat} {lv : List (Nat × Value)} {st : List Value} {cc : ByteArray} {own : String} {rm : Room}
variable {ci j index N : Nat} {T : u_T} {Cn : String} {k z : Int}
theorem gf_getI (C : gf_C X E cc nL own rm) (q : gf_cl ci Cn T N) (f : gf_fl own index j T N) (d : decode cc pc = .ok (.getfield index, 3)) (hz : (j : Int) = z) (ht : gf_ft ci j = 0) (hk : gf_is φ.2.2.1 k 0 ci N) (kk : gf_R (μ k z) → gf_G X E Q nL φ μ (pc + 3) lv (.int (gf_i (μ k z)) :: st)) : gf_G X E Q nL φ μ pc lv (.ref (gf_ad E k) :: st) := by
  intro H locs ls hl hW hS
  subst hz
  have he := gf_ws_get (E := E) (ρ := φ.2.2.2) (μ := μ) hk.1 hk.2.1
  rw [hk.2.2] at he
  have hr : gf_R (μ k j) := by
    have := hW.2.2 k j
    simpa [gf_rg, gf_lg, hk.2.2, ht] using this
  exact va_get C.1 C.2.1 C.2.2.2.2.1 q.2.1 C.2.2.2.1 (gf_K C) hW.2.1 k.toNat he q.1 j f.1 (C.2.2.2.2.1 _ f.2) (fun _ h => h) (by rw [gf_fs_at f.1, ht]; rfl) d (kk hr H locs ls hl hW hS)
theorem gf_getL (C : gf_C X E cc nL own rm) (q : gf_cl ci Cn T N) (f : gf_fl own index j T N) (d : decode cc pc = .ok (.getfield index, 3)) (hz : (j : Int) = z) (ht : gf_ft ci j = 1) (hk : gf_is φ.2.2.1 k 0 ci N) (kk : gf_RL (μ k z) → gf_G X E Q nL φ μ (pc + 3) lv (.long (gf_l (μ k z)) :: st)) : gf_G X E Q nL φ μ pc lv (.ref (gf_ad E k) :: st) := by
  intro H locs ls hl hW hS
  subst hz
  have he := gf_ws_get (E := E) (ρ := φ.2.2.2) (μ := μ) hk.1 hk.2.1
  rw [hk.2.2] at he
  have hr : gf_RL (μ k j) := by
    have := hW.2.2 k j
    simpa [gf_rg, gf_lg, hk.2.2, ht] using this
  exact va_get C.1 C.2.1 C.2.2.2.2.1 q.2.1 C.2.2.2.1 (gf_K C) hW.2.1 k.toNat he q.1 j f.1 (C.2.2.2.2.1 _ f.2) (fun _ h => h) (by rw [gf_fs_at f.1, ht]; rfl) d (kk hr H locs ls hl hW hS)
theorem gf_getA {r : Int} (C : gf_C X E cc nL own rm) (q : gf_cl ci Cn T N) (f : gf_fl own index j T N) (d : decode cc pc = .ok (.getfield index, 3)) (ht : gf_ft ci j = 2) (hk : gf_is φ.2.2.1 k 0 ci N) (hr : φ.2.2.2 k j = r) (h0 : 0 ≤ r) (kk : gf_G X E Q nL φ μ (pc + 3) lv (.ref (gf_ad E r) :: st)) : gf_G X E Q nL φ μ pc lv (.ref (gf_ad E k) :: st) := by
  intro H locs ls hl hW hS
  have he := gf_ws_get (E := E) (ρ := φ.2.2.2) (μ := μ) hk.1 hk.2.1
  rw [hk.2.2] at he
  exact va_get C.1 C.2.1 C.2.2.2.2.1 q.2.1 C.2.2.2.1 (gf_K C) hW.2.1 k.toNat he q.1 j f.1 (C.2.2.2.2.1 _ f.2) (fun _ h => h) (v := .ref (gf_ad E r)) (by rw [gf_fs_at f.1, ht, hr]; simp [gf_fv, gf_rf, va_rf, show ¬ r < 0 by omega]) d (kk H locs ls hl hW hS)
/-- a field is set: as the kit has it, and the heap's size stays -/
theorem gf_vput {H : Heap} {locs : List Loc} {cells slots : Nat} {ls : Array Slot} {ρ : gf_M} {n : Nat} {v : Value} {ty : FieldType} (C : gf_C X E cc nL own rm) (q : gf_cl ci Cn T N) (f : gf_fl own index j T N) (d : decode cc pc = .ok (.putfield index, 3)) (hfin : (T j).2.2.2 = false ∨ ((T j).2.2.2 = true ∧ X.2.2.2.2.2.2.2.2.1.name = "<init>" ∧ (T j).1 = own)) (hp : parseFieldDescriptor (T j).2.2.1 = some ty) (hn : narrow ty v = v) (hfit : fits ty v = true) (hk : gf_is n k 0 ci N) (hP : va_P E.2.1 gf_cls (gf_ws E n ρ μ) H) (hS : va_S (gf_A E) (gf_xs X).heap H locs)
    (kk : ∀ (H1 : Heap) (locs1 : List Loc), va_P E.2.1 gf_cls ((gf_ws E n ρ μ).set k.toNat (gf_ad E k, .inr (ci, ((List.range N).map fun j => gf_fv E (gf_ft ci j) (ρ k j) (μ k j)).set j v))) H1 → H1.size = H.size → va_S (gf_A E) (gf_xs X).heap H1 locs1 → gf_Wx X H1 locs1 cells slots Q (F0 (gf_xm X) (pc + 3) ls st)) : gf_Wx X H locs cells slots Q (F0 (gf_xm X) pc ls (v :: .ref (gf_ad E k) :: st)) := by
  obtain ⟨ty0, hty⟩ := q.2.2.1
  have he := gf_ws_get (E := E) (ρ := ρ) (μ := μ) hk.1 hk.2.1
  rw [hk.2.2] at he
  have hts := C.2.2.2.2.1
  have hap := va_apart (own := own) hts q.2.1 ty0 hty q.2.2.2 (gf_K C) q.1
  obtain ⟨r, h1, cell, q1, q2, q3, q4⟩ := hP k.toNat _ he
  have hr : r = (Cn, T, N) := Option.some.inj (h1.symm.trans q.1)
  subst hr
  obtain ⟨hSl, hfc, kC, hkC, hkind⟩ := (gf_K C).1 ci _ q.1
  obtain ⟨cf, kf, fi, fd, hi, hsl⟩ := hSl j f.1
  have hlay := hts _ (q.2.1 _ (u_in_lay f.1))
  unfold u_lay at hlay
  have hst := (u_facts hfc hkC (u_lays hts q.2.1 f.1) hi).1
  rcases hfin with hfin | ⟨hfin, hin2, hdecl⟩
  · rw [if_neg (by rw [hfin]; decide)] at hlay
    have h6 := u_store hfc hkC hkind hlay hi hp hn hfit
    refine W.putK C.1 C.2.1 (f := fd) ⟨C.2.2.2.1, hts _ f.2, ⟨_, _, _, hi⟩, hst⟩ (by rw [q2]; exact h6) q1 q3 (by rw [hsl]; exact k2_hasslot (q4 j f.1)) rfl rfl d fun H' e1 e2 e3 => ?_
    rw [hsl] at e1 ⊢
    exact kk H' _ (hP.set gf_D he ⟨_, q.1, t_OB.to (V := updV (vp_V _) j v) ⟨_, e1, q2, q3, t_set q4 hap f.1 v⟩ (fun i _ => vp_updV_set (by simp; exact f.1) v i)⟩ e3) e2 (hS.put e2 e3 (gf_D.2 k.toNat _ he))
  · rw [if_pos hfin] at hlay
    have hcf : X.2.2.2.2.2.1.cls = cf := by
      obtain ⟨_, _, c', _, _, _, -, -, hf', -, -, -, hown2, -⟩ := Cond.laysFinal_spec hlay
      have e1 : c' = cf := by have := hi.symm.trans hf'; simp at this; exact this.1.symm
      rw [hdecl] at hown2
      rw [← e1]; exact Option.some.inj (C.2.2.2.1.symm.trans hown2)
    have h6 := u_fits hfc hkC hkind (Or.inr hlay) hi hp hn hfit
    refine W.putFinK C.1 C.2.1 C.2.2.2.1 (hts _ f.2) hi hst hcf hin2 (by rw [q2]; exact h6) q1 q3 (by rw [hsl]; exact k2_hasslot (q4 j f.1)) rfl rfl d fun H' e1 e2 e3 => ?_
    rw [hsl] at e1 ⊢
    exact kk H' _ (hP.set gf_D he ⟨_, q.1, t_OB.to (V := updV (vp_V _) j v) ⟨_, e1, q2, q3, t_set q4 hap f.1 v⟩ (fun i _ => vp_updV_set (by simp; exact f.1) v i)⟩ e3) e2 (hS.put e2 e3 (gf_D.2 k.toNat _ he))
theorem gf_putI {x : Int} (C : gf_C X E cc nL own rm) (q : gf_cl ci Cn T N) (f : gf_fl own index j T N) (d : decode cc pc = .ok (.putfield index, 3)) (hz : (j : Int) = z) (ht : gf_ft ci j = 0) (hfin : (T j).2.2.2 = false) (hp : parseFieldDescriptor (T j).2.2.1 = some .int) (hk : gf_is φ.2.2.1 k 0 ci N) (hx : gf_R x) (kk : gf_G X E Q nL φ (gf_up μ k z x) (pc + 3) lv st) : gf_G X E Q nL φ μ pc lv (.int (gf_i x) :: .ref (gf_ad E k) :: st) := by
  intro H locs ls hl hW hS
  subst hz
  refine gf_vput C q f d (Or.inl hfin) hp rfl rfl hk hW.2.1 hS (fun H1 locs1 hP1 hz1 hS1 => ?_)
  rw [gf_ws_set (ρ' := φ.2.2.2) (μ' := gf_up μ k j x) hk.1 hk.2.1 (by rw [hk.2.2]; simp only [gf_cell]; rw [gf_fs_set (r' := φ.2.2.2 k) (m' := gf_up μ k j x k) f.1 (by rw [gf_up_s, ht]; rfl) (fun i hi => gf_upN hi) (fun _ _ => rfl)]) (fun a ha => gf_up_row ha) (fun _ _ => rfl)] at hP1
  exact kk H1 locs1 ls hl ⟨fun h => by rw [hz1]; exact hW.1 h, hP1, gf_rg_up hW.2.2 (gf_rg_R hx)⟩ hS1
/-- a boolean field -/
theorem gf_putZ {x : Int} (C : gf_C X E cc nL own rm) (q : gf_cl ci Cn T N) (f : gf_fl own index j T N) (d : decode cc pc = .ok (.putfield index, 3)) (hz : (j : Int) = z) (ht : gf_ft ci j = 0) (hfin : (T j).2.2.2 = false) (hp : parseFieldDescriptor (T j).2.2.1 = some .boolean) (hk : gf_is φ.2.2.1 k 0 ci N) (hx : x = 0 ∨ x = 1) (kk : gf_G X E Q nL φ (gf_up μ k z x) (pc + 3) lv st) : gf_G X E Q nL φ μ pc lv (.int (gf_i x) :: .ref (gf_ad E k) :: st) := by
  intro H locs ls hl hW hS
  subst hz
  refine gf_vput C q f d (Or.inl hfin) hp (by rcases hx with rfl | rfl <;> decide +kernel) (by rcases hx with rfl | rfl <;> decide +kernel) hk hW.2.1 hS (fun H1 locs1 hP1 hz1 hS1 => ?_)
  rw [gf_ws_set (ρ' := φ.2.2.2) (μ' := gf_up μ k j x) hk.1 hk.2.1 (by rw [hk.2.2]; simp only [gf_cell]; rw [gf_fs_set (r' := φ.2.2.2 k) (m' := gf_up μ k j x k) f.1 (by rw [gf_up_s, ht]; rfl) (fun i hi => gf_upN hi) (fun _ _ => rfl)]) (fun a ha => gf_up_row ha) (fun _ _ => rfl)] at hP1
  exact kk H1 locs1 ls hl ⟨fun h => by rw [hz1]; exact hW.1 h, hP1, gf_rg_up hW.2.2 (gf_rg_R (by omega))⟩ hS1
theorem gf_putL {x : Int} (C : gf_C X E cc nL own rm) (q : gf_cl ci Cn T N) (f : gf_fl own index j T N) (d : decode cc pc = .ok (.putfield index, 3)) (hz : (j : Int) = z) (ht : gf_ft ci j = 1) (hfin : (T j).2.2.2 = false) (hp : parseFieldDescriptor (T j).2.2.1 = some .long) (hk : gf_is φ.2.2.1 k 0 ci N) (hx : gf_RL x) (kk : gf_G X E Q nL φ (gf_up μ k z x) (pc + 3) lv st) : gf_G X E Q nL φ μ pc lv (.long (gf_l x) :: .ref (gf_ad E k) :: st) := by
  intro H locs ls hl hW hS
  subst hz
  refine gf_vput C q f d (Or.inl hfin) hp rfl rfl hk hW.2.1 hS (fun H1 locs1 hP1 hz1 hS1 => ?_)
  rw [gf_ws_set (ρ' := φ.2.2.2) (μ' := gf_up μ k j x) hk.1 hk.2.1 (by rw [hk.2.2]; simp only [gf_cell]; rw [gf_fs_set (r' := φ.2.2.2 k) (m' := gf_up μ k j x k) f.1 (by rw [gf_up_s, ht]; rfl) (fun i hi => gf_upN hi) (fun _ _ => rfl)]) (fun a ha => gf_up_row ha) (fun _ _ => rfl)] at hP1
  exact kk H1 locs1 ls hl ⟨fun h => by rw [hz1]; exact hW.1 h, hP1, gf_rg_up hW.2.2 (by unfold gf_rg gf_lg; simp [hk.2.2, ht]; omega)⟩ hS1
/-- a final field that holds a reference, in a constructor -/
theorem gf_putF {r : Int} {ty : FieldType} (C : gf_C X E cc nL own rm) (hname : X.2.2.2.2.2.2.2.2.1.name = "<init>") (q : gf_cl ci Cn T N) (f : gf_fl own index j T N) (d : decode cc pc = .ok (.putfield index, 3)) (hz : (j : Int) = z) (ht : gf_ft ci j = 2) (hfin : (T j).2.2.2 = true) (hdecl : (T j).1 = own) (hp : parseFieldDescriptor (T j).2.2.1 = some ty) (hty : ∀ a : Nat, narrow ty (.ref a) = .ref a ∧ fits ty (.ref a) = true) (hk : gf_is φ.2.2.1 k 0 ci N) (hr : 0 ≤ r) (kk : gf_G X E Q nL (φ.1, φ.2.1, φ.2.2.1, gf_up φ.2.2.2 k z r) μ (pc + 3) lv st) : gf_G X E Q nL φ μ pc lv (.ref (gf_ad E r) :: .ref (gf_ad E k) :: st) := by
  intro H locs ls hl hW hS
  subst hz
  refine gf_vput C q f d (Or.inr ⟨hfin, hname, hdecl⟩) hp (hty _).1 (hty _).2 hk hW.2.1 hS (fun H1 locs1 hP1 hz1 hS1 => ?_)
  rw [gf_ws_set (ρ' := gf_up φ.2.2.2 k j r) (μ' := μ) hk.1 hk.2.1 (by rw [hk.2.2]; simp only [gf_cell]; rw [gf_fs_set (r' := gf_up φ.2.2.2 k j r k) (m' := μ k) f.1 (by rw [gf_up_s, ht]; simp [gf_fv, gf_rf, va_rf, show ¬ r < 0 by omega]) (fun _ _ => rfl) (fun i hi => gf_upN hi)]) (fun _ _ => rfl) (fun a ha => gf_up_row ha)] at hP1
  exact kk H1 locs1 ls hl ⟨fun h => by rw [hz1]; exact hW.1 h, hP1, hW.2.2⟩ hS1
end GF2
end
section
/-! rows of arrays, static tables, copies, small library calls, switches -/
section GF3
variable {X : gf_X} {E : gf_E} {Q : State → Prop} {nL : Nat} {φ : gf_F} {μ : gf_M} {pc : Nat} {lv : List (Nat × Value)} {st : List Value} {cc : ByteArray} {own : String} {rm : Room}
variable {c N : Nat} {k x : Int}
theorem gf_in31 {N : Nat} (hN : N ≤ 2147483647) {x : Int} (h0 : 0 ≤ x) (h1 : x < (N : Int)) : gf_R x := by omega
theorem gf_shN : ∀ t ∈ gf_shL, t.2.2 ≤ 10000 := by decide +kernel
theorem gf_lenN {n : Nat} {k : Int} {a b c : Nat} (h : gf_is n k a b c) (ha : a < 9) : c ≤ 10000 := by
  have h3 := h.2.2
  unfold gf_sh at h3
  rw [List.getD_eq_getElem?_getD] at h3
  cases hq : gf_shL[k.toNat]? with
  | none => rw [hq] at h3; simp at h3; omega
  | some t =>
    rw [hq] at h3
    simp at h3
    have := gf_shN t (List.mem_of_getElem? hq)
    rw [h3] at this
    exact this
theorem gf_iald (C : gf_C X E cc nL own rm) (d : decode cc pc = .ok (.iaload, 1)) (hk : gf_is φ.2.2.1 k 1 c N) (hx : 0 ≤ x ∧ x < (N : Int)) (kk : gf_R (μ k x) → gf_G X E Q nL φ μ (pc + 1) lv (.int (gf_i (μ k x)) :: st)) : gf_G X E Q nL φ μ pc lv (.int (gf_i x) :: .ref (gf_ad E k) :: st) := by
  intro H locs ls hl hW hS
  have hN := gf_lenN hk (by decide)
  have hR : gf_R x := by omega
  have he := gf_ws_get (E := E) (ρ := φ.2.2.2) (μ := μ) hk.1 hk.2.1
  rw [hk.2.2] at he
  have hr : gf_R (μ k x) := by
    have := hW.2.2 k x
    simpa [gf_rg, gf_lg, hk.2.2] using this
  refine va_iald C.1 C.2.1 (gf_K C) hW.2.1 k.toNat 0 he rfl (gf_vin hx.1 hx.2 hR) d ?_
  rw [gf_i_nat hx.1 hR, show ((x.toNat : Nat) : Int) = x by omega]
  exact kk hr H locs ls hl hW hS
theorem gf_bald (C : gf_C X E cc nL own rm) (d : decode cc pc = .ok (.baload, 1)) (hk : gf_is φ.2.2.1 k 3 c N) (hx : 0 ≤ x ∧ x < (N : Int)) (kk : gf_R (μ k x) → gf_G X E Q nL φ μ (pc + 1) lv (.int (gf_i (μ k x)) :: st)) : gf_G X E Q nL φ μ pc lv (.int (gf_i x) :: .ref (gf_ad E k) :: st) := by
  intro H locs ls hl hW hS
  have hN := gf_lenN hk (by decide)
  have hR : gf_R x := by omega
  have he := gf_ws_get (E := E) (ρ := φ.2.2.2) (μ := μ) hk.1 hk.2.1
  rw [hk.2.2] at he
  have hr : gf_R (μ k x) := by
    have := hW.2.2 k x
    simpa [gf_rg, gf_lg, hk.2.2] using this
  refine va_bald C.1 C.2.1 (gf_K C) hW.2.1 k.toNat 2 he rfl (gf_vin hx.1 hx.2 hR) d ?_
  rw [gf_i_nat hx.1 hR, show ((x.toNat : Nat) : Int) = x by omega]
  exact kk hr H locs ls hl hW hS
theorem gf_lald (C : gf_C X E cc nL own rm) (d : decode cc pc = .ok (.laload, 1)) (hk : gf_is φ.2.2.1 k 2 c N) (hx : 0 ≤ x ∧ x < (N : Int)) (kk : gf_RL (μ k x) → gf_G X E Q nL φ μ (pc + 1) lv (.long (gf_l (μ k x)) :: st)) : gf_G X E Q nL φ μ pc lv (.int (gf_i x) :: .ref (gf_ad E k) :: st) := by
  intro H locs ls hl hW hS
  have hN := gf_lenN hk (by decide)
  have hR : gf_R x := by omega
  have he := gf_ws_get (E := E) (ρ := φ.2.2.2) (μ := μ) hk.1 hk.2.1
  rw [hk.2.2] at he
  have hr : gf_RL (μ k x) := by
    have := hW.2.2 k x
    simpa [gf_rg, gf_lg, hk.2.2] using this
  refine va_lald C.1 C.2.1 (gf_K C) hW.2.1 k.toNat 1 he rfl (gf_vin hx.1 hx.2 hR) d ?_
  rw [gf_i_nat hx.1 hR, show ((x.toNat : Nat) : Int) = x by omega]
  exact kk hr H locs ls hl hW hS
theorem gf_aald {r : Int} (C : gf_C X E cc nL own rm) (d : decode cc pc = .ok (.aaload, 1)) (hk : gf_is φ.2.2.1 k 4 c N) (hc : c = 3 ∨ c = 4 ∨ c = 5) (hx : 0 ≤ x ∧ x < (N : Int)) (hr : φ.2.2.2 k x = r) (h0 : 0 ≤ r) (kk : gf_G X E Q nL φ μ (pc + 1) lv (.ref (gf_ad E r) :: st)) : gf_G X E Q nL φ μ pc lv (.int (gf_i x) :: .ref (gf_ad E k) :: st) := by
  intro H locs ls hl hW hS
  have hN := gf_lenN hk (by decide)
  have hR : gf_R x := by omega
  have he := gf_ws_get (E := E) (ρ := φ.2.2.2) (μ := μ) hk.1 hk.2.1
  rw [hk.2.2] at he
  have hty : ∃ C0, (gf_tys E)[c]? = some (E.2.2.1 c, .object C0) := by
    rcases hc with rfl | rfl | rfl <;> exact ⟨_, rfl⟩
  obtain ⟨C0, hty⟩ := hty
  refine va_aldq C.1 C.2.1 (gf_K C) hW.2.1 k.toNat c he hty (gf_vin hx.1 hx.2 hR) d ?_
  rw [gf_i_nat hx.1 hR, show ((x.toNat : Nat) : Int) = x by omega, hr]
  have e : va_rf (gf_rf E r) = .ref (gf_ad E r) := by simp [gf_rf, va_rf, show ¬ r < 0 by omega]
  rw [e]
  exact kk H locs ls hl hW hS
theorem gf_alen (ty : Nat) (C : gf_C X E cc nL own rm) (d : decode cc pc = .ok (.arraylength, 1)) (hk : gf_is φ.2.2.1 k ty c N) (hty : (ty = 1) ∨ (ty = 2) ∨ (ty = 4 ∧ (c = 3 ∨ c = 4 ∨ c = 5))) (kk : gf_G X E Q nL φ μ (pc + 1) lv (.int (gf_i N) :: st)) : gf_G X E Q nL φ μ pc lv (.ref (gf_ad E k) :: st) := by
  intro H locs ls hl hW hS
  have he := gf_ws_get (E := E) (ρ := φ.2.2.2) (μ := μ) hk.1 hk.2.1
  rw [hk.2.2] at he
  have e : Int32.ofNat N = gf_i N := (Int32.ofInt_eq_ofNat).symm
  rcases hty with rfl | rfl | ⟨rfl, hc⟩
  · exact va_alen C.1 C.2.1 (gf_K C) hW.2.1 k.toNat 0 he (ty := .int) rfl e d (kk H locs ls hl hW hS)
  · exact va_alen C.1 C.2.1 (gf_K C) hW.2.1 k.toNat 1 he (ty := .long) rfl e d (kk H locs ls hl hW hS)
  · have hty : ∃ C0, (gf_tys E)[c]? = some (E.2.2.1 c, .object C0) := by
      rcases hc with rfl | rfl | rfl <;> exact ⟨_, rfl⟩
    obtain ⟨C0, hty⟩ := hty
    exact va_alen C.1 C.2.1 (gf_K C) hW.2.1 k.toNat c he hty e d (kk H locs ls hl hW hS)
theorem gf_upf {μ : gf_M} {k x v : Int} (h0 : 0 ≤ x) : upd (fun j : Nat => gf_i (μ k j)) x.toNat (gf_i v) = fun j : Nat => gf_i (gf_up μ k x v k j) := by
  funext j
  by_cases hj : j = x.toNat
  · subst hj
    simp [upd, gf_up, show max x 0 = x by omega]
  · have : (j : Int) ≠ x := by omega
    simp [upd, gf_up, this, hj]
theorem gf_iast {v : Int} (C : gf_C X E cc nL own rm) (d : decode cc pc = .ok (.iastore, 1)) (hk : gf_is φ.2.2.1 k 1 c N) (hx : 0 ≤ x ∧ x < (N : Int)) (hv : gf_R v) (kk : gf_G X E Q nL φ (gf_up μ k x v) (pc + 1) lv st) : gf_G X E Q nL φ μ pc lv (.int (gf_i v) :: .int (gf_i x) :: .ref (gf_ad E k) :: st) := by
  intro H locs ls hl hW hS
  have hN := gf_lenN hk (by decide)
  have hR : gf_R x := by omega
  have he := gf_ws_get (E := E) (ρ := φ.2.2.2) (μ := μ) hk.1 hk.2.1
  rw [hk.2.2] at he
  have hin := gf_vin hx.1 hx.2 hR
  refine W.iast C.1 C.2.1 (hW.2.1 k.toNat _ he) (((gf_K C).2 0 _ rfl).1 N (fun j => .int (gf_i (μ k j)))) (fun q => by cases q) (by show ¬ (gf_i x < 0 ∨ (arrV _ _ _).slots.size ≤ _); rw [arrV_size]; exact hin) rfl rfl d fun H1 e z oq => ?_
  have hP1 := hW.2.1.set (e := .inl (E.2.2.1 0, N, .inl (fun j : Nat => gf_i (gf_up μ k x v k j)))) gf_D he (by
    show H1[gf_ad E k]? = some (arrV (E.2.2.1 0) N (fun j : Nat => .int (gf_i (gf_up μ k x v k j))))
    rw [e]
    show some ((arrV (E.2.2.1 0) N (fun j : Nat => .int (gf_i (μ k j)))).setSlot _ _) = _
    rw [arrV_store, gf_i_nat hx.1 hR]
    congr 2
    funext q
    have e2 := congrFun (gf_upf (μ := μ) (k := k) (v := v) hx.1) q
    rw [← e2]
    by_cases hq : q = x.toNat
    · subst hq; simp [updV, upd]
    · simp [updV, upd, hq]) oq
  rw [gf_ws_set (ρ' := φ.2.2.2) (μ' := gf_up μ k x v) hk.1 hk.2.1 (by rw [hk.2.2]; rfl) (fun a ha => gf_up_row ha) (fun _ _ => rfl)] at hP1
  exact kk H1 _ ls hl ⟨fun h => by rw [z]; exact hW.1 h, hP1, gf_rg_up hW.2.2 (gf_rg_R hv)⟩ (hS.put z oq (gf_D.2 k.toNat _ he))
theorem gf_vb (v : Int) : vp_nar .byte (gf_i v) = gf_i (gf_b v) := by rw [vp_nar_byte, gf_b_i]
theorem gf_bast {v : Int} (hn : φ.2.2.1 = 81) (C : gf_C X E cc nL own rm) (d : decode cc pc = .ok (.bastore, 1)) (hk : gf_is φ.2.2.1 k 3 c N) (hx : 0 ≤ x ∧ x < (N : Int)) (kk : gf_G X E Q nL φ (gf_up μ k x (gf_b v)) (pc + 1) lv st) : gf_G X E Q nL φ μ pc lv (.int (gf_i v) :: .int (gf_i x) :: .ref (gf_ad E k) :: st) := by
  intro H locs ls hl hW hS
  have hN := gf_lenN hk (by decide)
  have hR : gf_R x := by omega
  have he := gf_ws_get (E := E) (ρ := φ.2.2.2) (μ := μ) hk.1 hk.2.1
  rw [hk.2.2] at he
  refine va_bast C.1 C.2.1 (gf_K C) hW.2.1 gf_D hS k.toNat 2 he rfl (gf_vin hx.1 hx.2 hR) d fun H1 locs1 hP1 _ hS1 => ?_
  rw [gf_vb, gf_i_nat hx.1 hR, gf_upf hx.1] at hP1
  rw [gf_ws_set (ρ' := φ.2.2.2) (μ' := gf_up μ k x (gf_b v)) hk.1 hk.2.1 (by rw [hk.2.2]; rfl) (fun a ha => gf_up_row ha) (fun _ _ => rfl)] at hP1
  have := gf_b_R v
  exact kk H1 _ ls hl ⟨fun h => by omega, hP1, gf_rg_up hW.2.2 (gf_rg_R (by omega))⟩ hS1
theorem gf_upfl {μ : gf_M} {k x v : Int} (h0 : 0 ≤ x) : vp_updL (fun j : Nat => gf_l (μ k j)) x.toNat (gf_l v) = fun j : Nat => gf_l (gf_up μ k x v k j) := by
  funext j
  by_cases hj : j = x.toNat
  · subst hj
    simp [vp_updL, gf_up, show max x 0 = x by omega]
  · have : (j : Int) ≠ x := by omega
    simp [vp_updL, gf_up, this, hj]
theorem gf_last {v : Int} (hn : φ.2.2.1 = 81) (C : gf_C X E cc nL own rm) (d : decode cc pc = .ok (.lastore, 1)) (hk : gf_is φ.2.2.1 k 2 c N) (hx : 0 ≤ x ∧ x < (N : Int)) (hv : gf_RL v) (kk : gf_G X E Q nL φ (gf_up μ k x v) (pc + 1) lv st) : gf_G X E Q nL φ μ pc lv (.long (gf_l v) :: .int (gf_i x) :: .ref (gf_ad E k) :: st) := by
  intro H locs ls hl hW hS
  have hN := gf_lenN hk (by decide)
  have hR : gf_R x := by omega
  have he := gf_ws_get (E := E) (ρ := φ.2.2.2) (μ := μ) hk.1 hk.2.1
  rw [hk.2.2] at he
  refine va_last C.1 C.2.1 (gf_K C) hW.2.1 gf_D hS k.toNat 1 he rfl (gf_vin hx.1 hx.2 hR) d fun H1 locs1 hP1 _ hS1 => ?_
  rw [gf_i_nat hx.1 hR, gf_upfl hx.1] at hP1
  rw [gf_ws_set (ρ' := φ.2.2.2) (μ' := gf_up μ k x v) hk.1 hk.2.1 (by rw [hk.2.2]; rfl) (fun a ha => gf_up_row ha) (fun _ _ => rfl)] at hP1
  exact kk H1 _ ls hl ⟨fun h => by omega, hP1, gf_rg_up hW.2.2 (by unfold gf_rg gf_lg; simp [hk.2.2]; omega)⟩ hS1
theorem gf_getsL (C : gf_C X E cc nL "GuardFigures$Reader" rm) (d : decode cc pc = .ok (.getstatic 52, 3)) (kk : gf_G X E Q nL φ μ (pc + 3) lv (.ref E.2.2.2.1 :: st)) : gf_G X E Q nL φ μ pc lv st :=
  fun H locs ls hl hW hS => va_getsN C.1 C.2.1 C.2.2.2.2.2.2.1.1 hS C.2.2.2.1 (va_Nw.use rfl C.2.2.2.2.2.2.1.2.2.2.2.1) (fun _ h => h) d (kk H locs ls hl hW hS)
theorem gf_getsA (C : gf_C X E cc nL "GuardFigures$Guard" rm) (d : decode cc pc = .ok (.getstatic 21, 3)) (kk : gf_G X E Q nL φ μ (pc + 3) lv (.ref E.2.2.2.2 :: st)) : gf_G X E Q nL φ μ pc lv st :=
  fun H locs ls hl hW hS => va_getsN C.1 C.2.1 C.2.2.2.2.2.2.1.2.2.1 hS C.2.2.2.1 (va_Nw.use rfl C.2.2.2.2.2.2.1.2.2.2.2.2.1) (fun _ h => h) d (kk H locs ls hl hW hS)
theorem gf_getsF {index : Nat} (C : gf_C X E cc nL "GuardFigures" rm) (hw : Cond.fieldLink "GuardFigures" index "GuardFigures" "ABOVE" "[I" ∈ gf_tbl) (d : decode cc pc = .ok (.getstatic index, 3)) (kk : gf_G X E Q nL φ μ (pc + 3) lv (.ref E.2.2.2.2 :: st)) : gf_G X E Q nL φ μ pc lv st :=
  fun H locs ls hl hW hS => va_gets C.1 C.2.1 C.2.2.2.2.2.2.1.2.2.1 hS C.2.2.2.1 (C.2.2.2.2.1 _ hw) (fun _ h => h) d (kk H locs ls hl hW hS)
theorem gf_tldL (C : gf_C X E cc nL own rm) (d : decode cc pc = .ok (.iaload, 1)) (hx : 0 ≤ x ∧ x < 6) (kk : gf_G X E Q nL φ μ (pc + 1) lv (.int (gf_i (([103, 101, 99, 104, 98, 100] : List Int).getD x.toNat 0)) :: st)) : gf_G X E Q nL φ μ pc lv (.int (gf_i x) :: .ref E.2.2.2.1 :: st) := by
  intro H locs ls hl hW hS
  have hR : gf_R x := by omega
  exact va_ti C.1 C.2.1 C.2.2.2.2.2.2.1.2.1 hS (gf_vin hx.1 hx.2 hR) (by rw [gf_i_nat hx.1 hR]; rfl) d (kk H locs ls hl hW hS)
theorem gf_tldA (C : gf_C X E cc nL own rm) (d : decode cc pc = .ok (.iaload, 1)) (hx : 0 ≤ x ∧ x < 6) (kk : gf_G X E Q nL φ μ (pc + 1) lv (.int (gf_i (([-1, 0, 0, 0, 1, 2] : List Int).getD x.toNat 0)) :: st)) : gf_G X E Q nL φ μ pc lv (.int (gf_i x) :: .ref E.2.2.2.2 :: st) := by
  intro H locs ls hl hW hS
  have hR : gf_R x := by omega
  exact va_ti C.1 C.2.1 C.2.2.2.2.2.2.1.2.2.2.1 hS (gf_vin hx.1 hx.2 hR) (by rw [gf_i_nat hx.1 hR]; rfl) d (kk H locs ls hl hW hS)
/-- row k from x on, n places, come to row k2 from y on -/
def gf_cp (μ : gf_M) (k x k2 y n : Int) : gf_M := fun a b => if a = k2 ∧ y ≤ b ∧ b < y + n then μ k (x + (b - y)) else μ a b
theorem gf_copy {index c2 N2 : Nat} {k2 y n : Int} (hn81 : φ.2.2.1 = 81) (C : gf_C X E cc nL own rm) (hw1 : Cond.methodLink own index arraycopyName ∈ gf_tbl) (hw2 : Cond.native arraycopyName ∈ gf_tbl) (hw3 : Cond.static arraycopyName ∈ gf_tbl) (hw4 : Cond.initialized "java/lang/System" ∈ gf_tbl) (hfr : 1 ≤ rm.frames) (hlo : (st.map fun v => v.category).sum + (nativeFrameWords "java/lang/System" "arraycopy" 5 + 11) ≤ rm.locals) (d : decode cc pc = .ok (.invokestatic index, 3)) (hk : gf_is φ.2.2.1 k 1 c N) (hk2 : gf_is φ.2.2.1 k2 1 c2 N2) (hx : 0 ≤ x ∧ 0 ≤ y ∧ 0 ≤ n ∧ x + n ≤ (N : Int) ∧ y + n ≤ (N2 : Int)) (kk : gf_G X E Q nL φ (gf_cp μ k x k2 y n) (pc + 3) lv st) : gf_G X E Q nL φ μ pc lv (.int (gf_i n) :: .int (gf_i y) :: .ref (gf_ad E k2) :: .int (gf_i x) :: .ref (gf_ad E k) :: st) := by
  intro H locs ls hl hW hS
  have hN := gf_lenN hk (by decide)
  have hN2 := gf_lenN hk2 (by decide)
  have hRx : gf_R x := by omega
  have hRy : gf_R y := by omega
  have hRn : gf_R n := by omega
  have he := gf_ws_get (E := E) (ρ := φ.2.2.2) (μ := μ) hk.1 hk.2.1
  rw [hk.2.2] at he
  have he2 := gf_ws_get (E := E) (ρ := φ.2.2.2) (μ := μ) hk2.1 hk2.2.1
  rw [hk2.2.2] at he2
  have hts := C.2.2.2.2.1
  refine va_copyi C.1 C.2.1 (by rw [C.2.2.1]; exact hl.1.symm) C.2.2.2.1 (hts _ hw1) (hts _ hw2) (hts _ hw3) (hts _ hw4) (gf_K C) hW.2.1 gf_D hS k.toNat k2.toNat 0 0 he he2 rfl rfl rfl (fun h => by have := (gf_i_neg hRx).mp h; omega) (fun h => by have := (gf_i_neg hRy).mp h; omega) (fun h => by have := (gf_i_neg hRn).mp h; omega) (by rw [gf_i_nat hx.1 hRx, gf_i_nat hx.2.2.1 hRn]; omega) (by rw [gf_i_nat hx.2.1 hRy, gf_i_nat hx.2.2.1 hRn]; omega) (fun _ _ => rfl) (by rw [C.2.2.2.2.2.2.2.1]; exact hfr) (by rw [C.2.2.2.2.2.2.2.1]; exact hlo) d fun H1 locs1 hP1 _ hS1 => ?_
  have ef : va_cpy (fun j : Nat => gf_i (μ k j)) (fun j : Nat => gf_i (μ k2 j)) (gf_i x).toNatClampNeg (gf_i y).toNatClampNeg (gf_i n).toNatClampNeg = fun j : Nat => gf_i (gf_cp μ k x k2 y n k2 j) := by
    rw [gf_i_nat hx.1 hRx, gf_i_nat hx.2.1 hRy, gf_i_nat hx.2.2.1 hRn]
    funext j
    unfold va_cpy gf_cp
    by_cases hj : y.toNat ≤ j ∧ j < y.toNat + n.toNat
    · rw [if_pos hj, if_pos ⟨rfl, by omega, by omega⟩]
      have e1 : ((x.toNat + (j - y.toNat) : Nat) : Int) = x + ((j : Int) - y) := by omega
      show gf_i (μ k ((x.toNat + (j - y.toNat) : Nat) : Int)) = _
      rw [e1]
    · rw [if_neg hj, if_neg (fun h => hj (by omega))]
  rw [ef] at hP1
  rw [gf_ws_set (ρ' := φ.2.2.2) (μ' := gf_cp μ k x k2 y n) hk2.1 hk2.2.1 (by rw [hk2.2.2]; rfl) (fun a ha => by funext b; simp [gf_cp, ha]) (fun _ _ => rfl)] at hP1
  refine kk H1 _ ls hl ⟨fun h => by omega, hP1, fun a b => ?_⟩ hS1
  unfold gf_cp
  by_cases hab : a = k2 ∧ y ≤ b ∧ b < y + n
  · rw [if_pos hab]
    have := hW.2.2 k (x + (b - y))
    have h1 : gf_R (μ k (x + (b - y))) := by simpa [gf_rg, gf_lg, hk.2.2] using this
    exact gf_rg_R h1
  · rw [if_neg hab]
    exact hW.2.2 a b
theorem gf_tblO {dflt lo hi : Int} {offs : Array Int} {len : Nat} (tgt : Nat) (C : gf_C X E cc nL own rm) (d : decode cc pc = .ok (.tableswitch dflt lo hi offs, len)) (hR : gf_R x) (h : x < lo ∨ hi < x) (ht : (pc : Int) + dflt = (tgt : Int)) (kk : gf_G X E Q nL φ μ tgt lv st) : gf_G X E Q nL φ μ pc lv (.int (gf_i x) :: st) :=
  fun H locs ls hl hW hS => lv_tableOut C.1 C.2.1 d (by rw [gf_i_toInt hR]; exact h) ht (kk H locs ls hl hW hS)
theorem gf_tblI {dflt lo hi off : Int} {offs : Array Int} {len : Nat} (tgt : Nat) (C : gf_C X E cc nL own rm) (d : decode cc pc = .ok (.tableswitch dflt lo hi offs, len)) (hR : gf_R x) (h1 : lo ≤ x) (h2 : x ≤ hi) (ho : offs[(x - lo).toNat]? = some off) (ht : (pc : Int) + off = (tgt : Int)) (kk : gf_G X E Q nL φ μ tgt lv st) : gf_G X E Q nL φ μ pc lv (.int (gf_i x) :: st) :=
  fun H locs ls hl hW hS => lv_tableIn C.1 C.2.1 d (by rw [gf_i_toInt hR]; omega) (by rw [gf_i_toInt hR]; omega) (by rw [gf_i_toInt hR]; exact ho) ht (kk H locs ls hl hW hS)
end GF3
end
section
/-! contracts, returns, calls -/
def gf_Qi (E : gf_E) (n : Nat) (ρ : gf_M) (Po : Int → gf_M → Prop) : Array Value → State → Outcome → State → Prop := va_Qi (fun (r : Int32) (μ' : gf_M) => ∃ x : Int, r = gf_i x ∧ gf_R x ∧ Po x μ') (fun μ' t => gf_W E n ρ μ' t.heap) (gf_A E)
def gf_Ql (E : gf_E) (n : Nat) (ρ : gf_M) (Po : Int → gf_M → Prop) : Array Value → State → Outcome → State → Prop := va_Ql (fun (r : Int64) (μ' : gf_M) => ∃ x : Int, r = gf_l x ∧ gf_RL x ∧ Po x μ') (fun μ' t => gf_W E n ρ μ' t.heap) (gf_A E)
def gf_Qv (E : gf_E) (n : Nat) (ρ : gf_M) (Po : gf_M → Prop) : Array Value → State → Outcome → State → Prop := va_Qv (fun μ' : gf_M => Po μ') (fun μ' t => gf_W E n ρ μ' t.heap) (gf_A E)
def gf_Pc (E : gf_E) (n : Nat) (ρ μ : gf_M) (av : List Value) : Array Value → State → Prop := va_Pc av (fun U => gf_U E n ρ μ U)
/-- contracts: from the world μ with the arguments av the method returns, an int (or boolean), a long, nothing -/
def gf_Mi (l : Launch) (E : gf_E) (y : MethodName) (cd : ByteArray) (mL : Nat) (rt : FieldType) (rm : Room) (n : Nat) (ρ μ : gf_M) (av : List Value) (Po : Int → gf_M → Prop) : Prop := Met l y (.code y cd mL (some rt) :: gf_tbl) rm (gf_Pc E n ρ μ av) (gf_Qi E n ρ Po) 0 0 (gf_A E)
def gf_Ml (l : Launch) (E : gf_E) (y : MethodName) (cd : ByteArray) (mL : Nat) (rm : Room) (n : Nat) (ρ μ : gf_M) (av : List Value) (Po : Int → gf_M → Prop) : Prop := Met l y (.code y cd mL (some .long) :: gf_tbl) rm (gf_Pc E n ρ μ av) (gf_Ql E n ρ Po) 0 0 (gf_A E)
def gf_Mv (l : Launch) (E : gf_E) (y : MethodName) (cd : ByteArray) (mL : Nat) (rm : Room) (n : Nat) (ρ : gf_M) (c s n' : Nat) (ρ' : gf_M) (μ : gf_M) (av : List Value) (Po : gf_M → Prop) : Prop := Met l y (.code y cd mL none :: gf_tbl) rm (gf_Pc E n ρ μ av) (gf_Qv E n' ρ' Po) c s (gf_A E)
/-- what the run comes to: the method's end -/
def gf_Ri (X : gf_X) (E : gf_E) (Q : State → Prop) (φ : gf_F) (rt : FieldType) (Po : Int → gf_M → Prop) : Prop := X.2.2.2.2.2.2.2.2.1.sig.returnType = some rt ∧ X.2.2.2.2.2.2.2.2.1.locks = false ∧ Q = MQ X.2.2.2.2.2.2.2.1 (gf_Qi E φ.2.2.1 φ.2.2.2 Po) X.2.2.2.2.2.2.1 X.2.2.2.2.1 φ.1 φ.2.1 (gf_A E)
def gf_Rl (X : gf_X) (E : gf_E) (Q : State → Prop) (φ : gf_F) (Po : Int → gf_M → Prop) : Prop := X.2.2.2.2.2.2.2.2.1.sig.returnType = some .long ∧ X.2.2.2.2.2.2.2.2.1.locks = false ∧ Q = MQ X.2.2.2.2.2.2.2.1 (gf_Ql E φ.2.2.1 φ.2.2.2 Po) X.2.2.2.2.2.2.1 X.2.2.2.2.1 φ.1 φ.2.1 (gf_A E)
def gf_Rv (X : gf_X) (E : gf_E) (Q : State → Prop) (φ : gf_F) (Po : gf_M → Prop) : Prop := X.2.2.2.2.2.2.2.2.1.sig.returnType = none ∧ X.2.2.2.2.2.2.2.2.1.locks = false ∧ Q = MQ X.2.2.2.2.2.2.2.1 (gf_Qv E φ.2.2.1 φ.2.2.2 Po) X.2.2.2.2.2.2.1 X.2.2.2.2.1 φ.1 φ.2.1 (gf_A E)
theorem gf_S.moved {E : gf_E} {u U : State} (hW : u.WarmedH U.vm) {H0 H : Heap} (h : gf_S E u H0) (hk : ∀ a : Nat, a < H0.size → ¬ gf_A E a → H[a]? = H0[a]?) : gf_S E U H := by
  obtain ⟨a1, a2, a3, a4, a5, a6, a7, a8, a9, a10, a11, a12⟩ := h
  exact ⟨(a1.moved hW.alike).kept hk, (a2.moved hW.alike).kept hk, (a3.moved hW.alike).kept hk, (a4.moved hW.alike).kept hk, a5.warmF hW, a6.warmF hW, a7.warmM hW, a8.warmM hW, a9.warmM hW, a10.warmM hW, a11.warmM hW, a12.warmM hW⟩
theorem gf_S.calling {E : gf_E} {U V : State} (hv : U.vm = V.vm) (hh : U.heap = V.heap) (h : gf_S E U U.heap) : gf_S E V V.heap := by
  have hal : U.vm.Alike V.vm := by rw [hv]; exact Vm.Alike.refl _
  obtain ⟨a1, a2, a3, a4, a5, a6, a7, a8, a9, a10, a11, a12⟩ := h
  rw [← hh]
  exact ⟨a1.moved hal, a2.moved hal, a3.moved hal, a4.moved hal, a5.same rfl hv, a6.same rfl hv, a7.same rfl hv, a8.same rfl hv, a9.same rfl hv, a10.same rfl hv, a11.same rfl hv, a12.same rfl hv⟩
theorem gf_blind {E : gf_E} {n : Nat} {ρ μ : gf_M} {av : List Value} : FrameBlind (gf_Pc E n ρ μ av) := by
  intro a U g mk h
  exact ⟨h.1, h.2.1, va_K.moved (u := U) (U := U.calling g mk a) (Vm.Alike.refl U.vm) h.2.2.1, gf_S.calling (U := U) (V := U.calling g mk a) rfl rfl h.2.2.2⟩
section GF4
variable {X : gf_X} {E : gf_E} {Q : State → Prop} {nL : Nat} {φ : gf_F} {μ : gf_M} {pc : Nat} {lv : List (Nat × Value)} {st : List Value} {cc : ByteArray} {own : String} {rm : Room}
theorem gf_iret {x : Int} {Po : Int → gf_M → Prop} (C : gf_C X E cc nL own rm) (hQ : gf_Ri X E Q φ .int Po) (d : decode cc pc = .ok (.ireturn, 1)) (hx : gf_R x) (hp : Po x μ) : gf_G X E Q nL φ μ pc lv [.int (gf_i x)] := by
  intro H locs ls hl hW hS
  rw [hQ.2.2]
  exact W.iret C.1 C.2.1 hQ.1 (fun t ht hw => ⟨⟨gf_i x, μ, rfl, ⟨x, rfl, hx, hp⟩, by show gf_W _ _ _ _ t.heap; rw [ht]; exact hW⟩, hS.F ht⟩) hS.2.2 d hQ.2.1
theorem gf_zret {x : Int} {Po : Int → gf_M → Prop} (C : gf_C X E cc nL own rm) (hQ : gf_Ri X E Q φ .boolean Po) (d : decode cc pc = .ok (.ireturn, 1)) (hx : x = 0 ∨ x = 1) (hp : Po x μ) : gf_G X E Q nL φ μ pc lv [.int (gf_i x)] := by
  intro H locs ls hl hW hS
  rw [hQ.2.2]
  exact W.zret C.1 C.2.1 hQ.1 (by rcases hx with rfl | rfl <;> decide +kernel) (fun t ht hw => ⟨⟨gf_i x, μ, rfl, ⟨x, rfl, by omega, hp⟩, by show gf_W _ _ _ _ t.heap; rw [ht]; exact hW⟩, hS.F ht⟩) hS.2.2 d hQ.2.1
theorem gf_lret {x : Int} {Po : Int → gf_M → Prop} (C : gf_C X E cc nL own rm) (hQ : gf_Rl X E Q φ Po) (d : decode cc pc = .ok (.lreturn, 1)) (hx : gf_RL x) (hp : Po x μ) : gf_G X E Q nL φ μ pc lv [.long (gf_l x)] := by
  intro H locs ls hl hW hS
  rw [hQ.2.2]
  exact W.lret C.1 C.2.1 hQ.1 (fun t ht hw => ⟨⟨gf_l x, μ, rfl, ⟨x, rfl, hx, hp⟩, by show gf_W _ _ _ _ t.heap; rw [ht]; exact hW⟩, hS.F ht⟩) hS.2.2 d hQ.2.1
theorem gf_vret {Po : gf_M → Prop} (C : gf_C X E cc nL own rm) (hQ : gf_Rv X E Q φ Po) (d : decode cc pc = .ok (.return_, 1)) (hp : Po μ) : gf_G X E Q nL φ μ pc lv [] := by
  intro H locs ls hl hW hS
  rw [hQ.2.2]
  exact W.vret C.1 C.2.1 hQ.1 (fun t ht hw => ⟨⟨μ, rfl, hp, by show gf_W _ _ _ _ t.heap; rw [ht]; exact hW⟩, hS.F ht⟩) hS.2.2 d hQ.2.1
end GF4
/-- a method's body gives its contract -/
theorem gf_body {l : Launch} {E : gf_E} {y : MethodName} {cd : ByteArray} {mL : Nat} {ret : Option FieldType} {rm : Room} {n : Nat} {ρ μ : gf_M} {av : List Value} {Qc : Array Value → State → Outcome → State → Prop} {c s : Nat} (hy : plainName y.cls = true) (hav : (lg_sl av).length ≤ mL) (hn : n ≤ 81)
    (kk : ∀ (X : gf_X), gf_xl X = l → gf_C X E cd mL y.cls rm → X.2.2.2.2.2.2.2.2.1.sig.returnType = ret → X.2.2.2.2.2.2.2.2.1.locks = false → X.2.2.2.2.2.2.2.2.1.name = y.name → gf_G X E (MQ X.2.2.2.2.2.2.2.1 Qc X.2.2.2.2.2.2.1 X.2.2.2.2.1 c s (gf_A E)) mL (0, 0, n, ρ) μ 0 (lv_args 0 av) []) :
    Met l y (.code y cd mL ret :: gf_tbl) rm (gf_Pc E n ρ μ av) Qc c s (gf_A E) := by
  refine Met.ofW (cc := cd) (maxL := mL) (ret := ret) hy rfl ?_
  intro p e s0 m args below meth c0 s₁ B hml hv
  obtain ⟨hav2, hW, hK, hS⟩ := hv
  subst hav2
  have hts := atoms_spec (ws := .code y cd mL ret :: gf_tbl) B.pre
  have hl := lv_entry av (n := mL) hav
  have hbase : E.1 ≤ s0.heap.size := by
    have h0 := hW.2.1
    by_cases h : n < 81
    · have := hW.1 h; omega
    · have h80 := h0 80 _ (by have := gf_ws_get (E := E) (n := n) (ρ := ρ) (μ := μ) (k := 80) (by decide) (by omega); exact this)
      have := h80.lt
      have h2 : gf_ad E 80 < s0.heap.size := this
      unfold gf_ad at h2
      omega
  have hC : gf_C (p, l, e, (headSpec (.code y cd mL ret :: gf_tbl) rm).room, s0, m, av.toArray, below, meth, c0) E cd mL y.cls rm :=
    ⟨B.exec, B.bytes, hml, findClass_of_methodNamed B.named, fun w hw => hts w (List.mem_cons_of_mem _ hw), hK, hS, rfl, hbase⟩
  have := kk (p, l, e, (headSpec (.code y cd mL ret :: gf_tbl) rm).room, s0, m, av.toArray, below, meth, c0) rfl hC B.returns B.notSynchronized (name_of_methodNamed B.named B.method).1 s0.heap [] _ hl hW va_S.rf
  rw [lg_entry_eq]
  exact this
theorem gf_mi {l : Launch} {E : gf_E} {y : MethodName} {cd : ByteArray} {mL : Nat} {rt : FieldType} {rm : Room} {n : Nat} {ρ μ : gf_M} {av : List Value} {Po : Int → gf_M → Prop} (hy : plainName y.cls = true) (hav : (lg_sl av).length ≤ mL) (hn : n ≤ 81)
    (kk : ∀ (X : gf_X) (Q : State → Prop), gf_xl X = l → gf_C X E cd mL y.cls rm → gf_Ri X E Q (0, 0, n, ρ) rt Po → gf_G X E Q mL (0, 0, n, ρ) μ 0 (lv_args 0 av) []) : gf_Mi l E y cd mL rt rm n ρ μ av Po :=
  gf_body hy hav hn (fun X hl hC hr hlk _ => kk X _ hl hC ⟨hr, hlk, rfl⟩)
theorem gf_ml {l : Launch} {E : gf_E} {y : MethodName} {cd : ByteArray} {mL : Nat} {rm : Room} {n : Nat} {ρ μ : gf_M} {av : List Value} {Po : Int → gf_M → Prop} (hy : plainName y.cls = true) (hav : (lg_sl av).length ≤ mL) (hn : n ≤ 81)
    (kk : ∀ (X : gf_X) (Q : State → Prop), gf_xl X = l → gf_C X E cd mL y.cls rm → gf_Rl X E Q (0, 0, n, ρ) Po → gf_G X E Q mL (0, 0, n, ρ) μ 0 (lv_args 0 av) []) : gf_Ml l E y cd mL rm n ρ μ av Po :=
  gf_body hy hav hn (fun X hl hC hr hlk _ => kk X _ hl hC ⟨hr, hlk, rfl⟩)
theorem gf_mv {l : Launch} {E : gf_E} {y : MethodName} {cd : ByteArray} {mL : Nat} {rm : Room} {n c s n' : Nat} {ρ ρ' μ : gf_M} {av : List Value} {Po : gf_M → Prop} (hy : plainName y.cls = true) (hav : (lg_sl av).length ≤ mL) (hn : n ≤ 81)
    (kk : ∀ (X : gf_X) (Q : State → Prop), gf_xl X = l → gf_C X E cd mL y.cls rm → X.2.2.2.2.2.2.2.2.1.name = y.name → gf_Rv X E Q (c, s, n', ρ') Po → gf_G X E Q mL (0, 0, n, ρ) μ 0 (lv_args 0 av) []) : gf_Mv l E y cd mL rm n ρ c s n' ρ' μ av Po :=
  gf_body hy hav hn (fun X hl hC hr hlk hnm => kk X _ hl hC hnm ⟨hr, hlk, rfl⟩)
/-- words and shape of a call: a static method, one of an object, one of a nest mate -/
def gf_kS (own : String) (idx : Nat) (y : MethodName) (cd : ByteArray) (mL : Nat) (rt : Option FieldType) (na : Nat) : Prop := Cond.code y cd mL rt ∈ gf_tbl ∧ Cond.methodLink own idx y ∈ gf_tbl ∧ Cond.static y ∈ gf_tbl ∧ Cond.initialized y.cls ∈ gf_tbl ∧ (y.cls ≠ "java/lang/invoke/MethodHandle" ∧ y.cls ≠ "java/lang/invoke/VarHandle" ∧ (parseMethodDescriptor y.desc).map (fun d => d.parameters.length) = some na)
def gf_kV (own : String) (idx : Nat) (y : MethodName) (cd : ByteArray) (mL : Nat) (rt : Option FieldType) (na : Nat) : Prop := Cond.code y cd mL rt ∈ gf_tbl ∧ Cond.methodLink own idx y ∈ gf_tbl ∧ Cond.instanceMethod y ∈ gf_tbl ∧ Cond.selects y.cls y y ∈ gf_tbl ∧ Cond.initialized y.cls ∈ gf_tbl ∧ (y.cls ≠ "java/lang/invoke/MethodHandle" ∧ y.cls ≠ "java/lang/invoke/VarHandle" ∧ (parseMethodDescriptor y.desc).map (fun d => d.parameters.length) = some na)
def gf_kI (own : String) (idx : Nat) (y : MethodName) (cd : ByteArray) (mL : Nat) (na : Nat) : Prop := Cond.code y cd mL none ∈ gf_tbl ∧ Cond.methodLink own idx y ∈ gf_tbl ∧ Cond.instanceMethod y ∈ gf_tbl ∧ Cond.initialized y.cls ∈ gf_tbl ∧ y.name = "<init>" ∧ (y.cls ≠ "java/lang/invoke/MethodHandle" ∧ y.cls ≠ "java/lang/invoke/VarHandle" ∧ (parseMethodDescriptor y.desc).map (fun d => d.parameters.length) = some na)
def gf_kN (y : MethodName) (cd : ByteArray) (mL : Nat) (rt : Option FieldType) (na : Nat) : Prop := Cond.code y cd mL rt ∈ gf_tbl ∧ Cond.static y ∈ gf_tbl ∧ Cond.initialized y.cls ∈ gf_tbl ∧ (y.cls ≠ "java/lang/invoke/MethodHandle" ∧ y.cls ≠ "java/lang/invoke/VarHandle" ∧ (parseMethodDescriptor y.desc).map (fun d => d.parameters.length) = some na)
/-- the callee's room in the caller's -/
def gf_rok (rm rm' : Room) (mL : Nat) : Bool := decide (rm'.frames + 1 ≤ rm.frames) && decide (8 + (mL + 11) + rm'.locals ≤ rm.locals)
section GF5
variable {X : gf_X} {E : gf_E} {Q : State → Prop} {nL : Nat} {φ : gf_F} {μ : gf_M} {pc : Nat} {lv : List (Nat × Value)} {st As : List Value} {cc : ByteArray} {own : String} {rm : Room}
variable {y : MethodName} {cd : ByteArray} {mL idx : Nat} {rm' : Room}
theorem gf_pre {H : Heap} {locs : List Loc} {n : Nat} {ρ : gf_M} {av : List Value} (C : gf_C X E cc nL own rm) (hW : gf_W E n ρ μ H) (hS : va_S (gf_A E) (gf_xs X).heap H locs) : ∀ U : State, U.heap = H → X.2.2.2.2.1.WarmedH U.vm → gf_Pc E n ρ μ av av.toArray U := by
  intro U hU hw
  refine ⟨rfl, by rw [hU]; exact hW, va_K.moved hw.alike (gf_K C), ?_⟩
  rw [hU]
  exact gf_S.moved hw C.2.2.2.2.2.2.1 (fun a h1 h2 => hS.2.1 a h1 h2)
theorem gf_goodX {w0 : Cond} (h0 : w0 ∈ gf_tbl) : GoodIn gf_tbl (w0 :: gf_tbl) := gf_good h0 (fun _ h => h)
theorem gf_runS {Qc : Array Value → State → Outcome → State → Prop} {rt : Option FieldType} {H : Heap} {locs : List Loc} {ls : Array Slot} {mc ms : Nat} (C : gf_C X E cc nL own rm) (hl : ls.size = nL) (w : gf_kS own idx y cd mL rt As.length) (M : Met (gf_xl X) y (.code y cd mL rt :: gf_tbl) rm' (gf_Pc E φ.2.2.1 φ.2.2.2 μ As) Qc mc ms (gf_A E)) (hR : gf_rok rm rm' mL = true) (hrc : rm'.cells = mc) (hrs : rm'.slots = ms) (hst : (st.map fun v => v.category).sum ≤ 8) (d : decode cc pc = .ok (.invokestatic idx, 3)) (hf : φ.1 + mc ≤ rm.cells ∧ φ.2.1 + ms ≤ rm.slots) (hW : gf_W E φ.2.2.1 φ.2.2.2 μ H) (hS : va_S (gf_A E) (gf_xs X).heap H locs) :
    va_Run X.1 X.2.1 X.2.2.1 X.2.2.2.1 X.2.2.2.2.1 X.2.2.2.2.2.1 X.2.2.2.2.2.2.1 X.2.2.2.2.2.2.2.1 X.2.2.2.2.2.2.2.2.1 X.2.2.2.2.2.2.2.2.2 H locs φ.1 φ.2.1 mc ms (F0 (gf_xm X) pc ls (As.reverse ++ st)) st (Qc As.toArray) (gf_A E) := by
  have hts := C.2.2.2.2.1
  simp only [gf_rok, Bool.and_eq_true, decide_eq_true_eq] at hR
  exact va_runS ⟨C.1, C.2.1, C.2.2.1, C.2.2.2.1, hts⟩ M ⟨callB_of As.length hts (gf_goodX w.1) rfl hrc hrs (hts _ w.2.2.2.1) (hts _ w.2.1) w.2.2.2.2 (by rw [C.2.2.2.2.2.2.2.1]; exact hR), hts _ w.2.2.1⟩ ⟨gf_blind, gf_pre C hW hS⟩ rfl rfl hl rfl (lv_room hst) d (by rw [C.2.2.2.2.2.2.2.1]; exact hf)
theorem gf_runN {host : String} {Qc : Array Value → State → Outcome → State → Prop} {rt : Option FieldType} {H : Heap} {locs : List Loc} {ls : Array Slot} (C : gf_C X E cc nL own rm) (hl : ls.size = nL) (w : gf_kN y cd mL rt As.length) (hn : va_Nw (.methodLinkNest own idx y host) (gf_xs X)) (M : Met (gf_xl X) y (.code y cd mL rt :: gf_tbl) rm' (gf_Pc E φ.2.2.1 φ.2.2.2 μ As) Qc 0 0 (gf_A E)) (hR : gf_rok rm rm' mL = true) (hrc : rm'.cells = 0) (hrs : rm'.slots = 0) (hst : (st.map fun v => v.category).sum ≤ 8) (d : decode cc pc = .ok (.invokestatic idx, 3)) (hf : φ.1 + 0 ≤ rm.cells ∧ φ.2.1 + 0 ≤ rm.slots) (hW : gf_W E φ.2.2.1 φ.2.2.2 μ H) (hS : va_S (gf_A E) (gf_xs X).heap H locs) :
    va_Run X.1 X.2.1 X.2.2.1 X.2.2.2.1 X.2.2.2.2.1 X.2.2.2.2.2.1 X.2.2.2.2.2.2.1 X.2.2.2.2.2.2.2.1 X.2.2.2.2.2.2.2.2.1 X.2.2.2.2.2.2.2.2.2 H locs φ.1 φ.2.1 0 0 (F0 (gf_xm X) pc ls (As.reverse ++ st)) st (Qc As.toArray) (gf_A E) := by
  have hts := C.2.2.2.2.1
  simp only [gf_rok, Bool.and_eq_true, decide_eq_true_eq] at hR
  exact va_runSN ⟨C.1, C.2.1, C.2.2.1, C.2.2.2.1, hts⟩ M ⟨va_cnB As.length hts (gf_goodX w.1) rfl hrc hrs hn (hts _ w.2.2.1) w.2.2.2 (by rw [C.2.2.2.2.2.2.2.1]; exact hR), hts _ w.2.1, trivial⟩ ⟨gf_blind, gf_pre C hW hS⟩ rfl rfl hl rfl (lv_room hst) d (by rw [C.2.2.2.2.2.2.2.1]; exact hf)
theorem gf_runV {Qc : Array Value → State → Outcome → State → Prop} {rt : Option FieldType} {H : Heap} {locs : List Loc} {ls : Array Slot} {k : Int} {ci N : Nat} {T : u_T} (C : gf_C X E cc nL own rm) (hl : ls.size = nL) (w : gf_kV own idx y cd mL rt As.length) (q : gf_cl ci y.cls T N) (hk : gf_is φ.2.2.1 k 0 ci N) (M : Met (gf_xl X) y (.code y cd mL rt :: gf_tbl) rm' (gf_Pc E φ.2.2.1 φ.2.2.2 μ (.ref (gf_ad E k) :: As)) Qc 0 0 (gf_A E)) (hR : gf_rok rm rm' mL = true) (hrc : rm'.cells = 0) (hrs : rm'.slots = 0) (hst : (st.map fun v => v.category).sum ≤ 8) (d : decode cc pc = .ok (.invokevirtual idx, 3)) (hf : φ.1 + 0 ≤ rm.cells ∧ φ.2.1 + 0 ≤ rm.slots) (hW : gf_W E φ.2.2.1 φ.2.2.2 μ H) (hS : va_S (gf_A E) (gf_xs X).heap H locs) :
    va_Run X.1 X.2.1 X.2.2.1 X.2.2.2.1 X.2.2.2.2.1 X.2.2.2.2.2.1 X.2.2.2.2.2.2.1 X.2.2.2.2.2.2.2.1 X.2.2.2.2.2.2.2.2.1 X.2.2.2.2.2.2.2.2.2 H locs φ.1 φ.2.1 0 0 (F0 (gf_xm X) pc ls (As.reverse ++ .ref (gf_ad E k) :: st)) st (Qc (Value.ref (gf_ad E k) :: As).toArray) (gf_A E) := by
  have hts := C.2.2.2.2.1
  simp only [gf_rok, Bool.and_eq_true, decide_eq_true_eq] at hR
  have he := gf_ws_get (E := E) (ρ := φ.2.2.2) (μ := μ) hk.1 hk.2.1
  rw [hk.2.2] at he
  exact va_runV ⟨C.1, C.2.1, C.2.2.1, C.2.2.2.1, hts⟩ M ⟨callB_of As.length hts (gf_goodX w.1) rfl hrc hrs (hts _ w.2.2.2.2.1) (hts _ w.2.1) w.2.2.2.2.2 (by rw [C.2.2.2.2.2.2.2.1]; exact hR), hts _ w.2.2.1, hts _ w.2.2.2.1⟩ ⟨gf_blind, va_recv (gf_K C) hW.2.1 q.1 he, gf_pre C hW hS⟩ rfl rfl hl rfl (lv_room hst) d (by rw [C.2.2.2.2.2.2.2.1]; exact hf)
/-- behind a call: an int, a long, nothing -/
theorem gf_backi {H : Heap} {locs : List Loc} {ls : Array Slot} {st0 : List Value} {a : Array Value} {Po : Int → gf_M → Prop} (hl : lv_has ls nL lv) (hS : va_S (gf_A E) (gf_xs X).heap H locs)
    (hr : va_Run X.1 X.2.1 X.2.2.1 X.2.2.2.1 X.2.2.2.2.1 X.2.2.2.2.2.1 X.2.2.2.2.2.2.1 X.2.2.2.2.2.2.2.1 X.2.2.2.2.2.2.2.2.1 X.2.2.2.2.2.2.2.2.2 H locs φ.1 φ.2.1 0 0 (F0 (gf_xm X) pc ls st0) st (gf_Qi E φ.2.2.1 φ.2.2.2 Po a) (gf_A E))
    (kk : ∀ (r : Int) (μ' : gf_M), gf_R r → Po r μ' → gf_G X E Q nL φ μ' (pc + 3) lv (.int (gf_i r) :: st)) : gf_Wx X H locs φ.1 φ.2.1 Q (F0 (gf_xm X) pc ls st0) := by
  refine va_calli hr hS (fun _ _ h => h) (fun _ h => h) (fun r μ' t H1 locs1 ht _ hp hB _ _ hS1 => ?_)
  obtain ⟨x, rfl, hx, hp⟩ := hp
  exact kk x μ' hx hp H1 locs1 ls hl (by rw [← ht]; exact hB) hS1
theorem gf_backl {H : Heap} {locs : List Loc} {ls : Array Slot} {st0 : List Value} {a : Array Value} {Po : Int → gf_M → Prop} (hl : lv_has ls nL lv) (hS : va_S (gf_A E) (gf_xs X).heap H locs)
    (hr : va_Run X.1 X.2.1 X.2.2.1 X.2.2.2.1 X.2.2.2.2.1 X.2.2.2.2.2.1 X.2.2.2.2.2.2.1 X.2.2.2.2.2.2.2.1 X.2.2.2.2.2.2.2.2.1 X.2.2.2.2.2.2.2.2.2 H locs φ.1 φ.2.1 0 0 (F0 (gf_xm X) pc ls st0) st (gf_Ql E φ.2.2.1 φ.2.2.2 Po a) (gf_A E))
    (kk : ∀ (r : Int) (μ' : gf_M), gf_RL r → Po r μ' → gf_G X E Q nL φ μ' (pc + 3) lv (.long (gf_l r) :: st)) : gf_Wx X H locs φ.1 φ.2.1 Q (F0 (gf_xm X) pc ls st0) := by
  refine va_calll hr hS (fun _ _ h => h) (fun _ h => h) (fun r μ' t H1 locs1 ht _ hp hB _ _ hS1 => ?_)
  obtain ⟨x, rfl, hx, hp⟩ := hp
  exact kk x μ' hx hp H1 locs1 ls hl (by rw [← ht]; exact hB) hS1
theorem gf_backv {H : Heap} {locs : List Loc} {ls : Array Slot} {st0 : List Value} {a : Array Value} {Po : gf_M → Prop} {mc ms n' : Nat} {ρ' : gf_M} (hl : lv_has ls nL lv) (hS : va_S (gf_A E) (gf_xs X).heap H locs)
    (hr : va_Run X.1 X.2.1 X.2.2.1 X.2.2.2.1 X.2.2.2.2.1 X.2.2.2.2.2.1 X.2.2.2.2.2.2.1 X.2.2.2.2.2.2.2.1 X.2.2.2.2.2.2.2.2.1 X.2.2.2.2.2.2.2.2.2 H locs φ.1 φ.2.1 mc ms (F0 (gf_xm X) pc ls st0) st (gf_Qv E n' ρ' Po a) (gf_A E))
    (kk : ∀ (μ' : gf_M), Po μ' → gf_G X E Q nL (φ.1 + mc, φ.2.1 + ms, n', ρ') μ' (pc + 3) lv st) : gf_Wx X H locs φ.1 φ.2.1 Q (F0 (gf_xm X) pc ls st0) := by
  refine va_callv hr hS (fun _ _ h => h) (fun _ h => h) (fun μ' t H1 locs1 ht _ hp hB _ _ hS1 => ?_)
  exact kk μ' hp H1 locs1 ls hl (by rw [← ht]; exact hB) hS1
theorem gf_callSi {rt : FieldType} {Po : Int → gf_M → Prop} {st0 : List Value} (C : gf_C X E cc nL own rm) (w : gf_kS own idx y cd mL (some rt) As.length) (M : gf_Mi (gf_xl X) E y cd mL rt rm' φ.2.2.1 φ.2.2.2 μ As Po) (hR : gf_rok rm rm' mL = true) (hr : rm'.cells = 0 ∧ rm'.slots = 0 ∧ φ.1 = 0 ∧ φ.2.1 = 0) (hst : (st.map fun v => v.category).sum ≤ 8) (hs : st0 = As.reverse ++ st) (d : decode cc pc = .ok (.invokestatic idx, 3)) (kk : ∀ (r : Int) (μ' : gf_M), gf_R r → Po r μ' → gf_G X E Q nL φ μ' (pc + 3) lv (.int (gf_i r) :: st)) : gf_G X E Q nL φ μ pc lv st0 := by
  subst hs
  exact fun H locs ls hl hW hS => gf_backi hl hS (gf_runS C hl.1 w M hR hr.1 hr.2.1 hst d ⟨by omega, by omega⟩ hW hS) kk
theorem gf_callNi {host : String} {rt : FieldType} {Po : Int → gf_M → Prop} {st0 : List Value} (C : gf_C X E cc nL own rm) (w : gf_kN y cd mL (some rt) As.length) (hn : va_Nw (.methodLinkNest own idx y host) (gf_xs X)) (M : gf_Mi (gf_xl X) E y cd mL rt rm' φ.2.2.1 φ.2.2.2 μ As Po) (hR : gf_rok rm rm' mL = true) (hr : rm'.cells = 0 ∧ rm'.slots = 0 ∧ φ.1 = 0 ∧ φ.2.1 = 0) (hst : (st.map fun v => v.category).sum ≤ 8) (hs : st0 = As.reverse ++ st) (d : decode cc pc = .ok (.invokestatic idx, 3)) (kk : ∀ (r : Int) (μ' : gf_M), gf_R r → Po r μ' → gf_G X E Q nL φ μ' (pc + 3) lv (.int (gf_i r) :: st)) : gf_G X E Q nL φ μ pc lv st0 := by
  subst hs
  exact fun H locs ls hl hW hS => gf_backi hl hS (gf_runN C hl.1 w hn M hR hr.1 hr.2.1 hst d ⟨by omega, by omega⟩ hW hS) kk
theorem gf_callVi {ci N : Nat} {T : u_T} {k : Int} {rt : FieldType} {Po : Int → gf_M → Prop} {st0 : List Value} (C : gf_C X E cc nL own rm) (w : gf_kV own idx y cd mL (some rt) As.length) (q : gf_cl ci y.cls T N) (hk : gf_is φ.2.2.1 k 0 ci N) (M : gf_Mi (gf_xl X) E y cd mL rt rm' φ.2.2.1 φ.2.2.2 μ (.ref (gf_ad E k) :: As) Po) (hR : gf_rok rm rm' mL = true) (hr : rm'.cells = 0 ∧ rm'.slots = 0 ∧ φ.1 = 0 ∧ φ.2.1 = 0) (hst : (st.map fun v => v.category).sum ≤ 8) (hs : st0 = As.reverse ++ .ref (gf_ad E k) :: st) (d : decode cc pc = .ok (.invokevirtual idx, 3)) (kk : ∀ (r : Int) (μ' : gf_M), gf_R r → Po r μ' → gf_G X E Q nL φ μ' (pc + 3) lv (.int (gf_i r) :: st)) : gf_G X E Q nL φ μ pc lv st0 := by
  subst hs
  exact fun H locs ls hl hW hS => gf_backi hl hS (gf_runV C hl.1 w q hk M hR hr.1 hr.2.1 hst d ⟨by omega, by omega⟩ hW hS) kk
theorem gf_callSl {Po : Int → gf_M → Prop} {st0 : List Value} (C : gf_C X E cc nL own rm) (w : gf_kS own idx y cd mL (some .long) As.length) (M : gf_Ml (gf_xl X) E y cd mL rm' φ.2.2.1 φ.2.2.2 μ As Po) (hR : gf_rok rm rm' mL = true) (hr : rm'.cells = 0 ∧ rm'.slots = 0 ∧ φ.1 = 0 ∧ φ.2.1 = 0) (hst : (st.map fun v => v.category).sum ≤ 8) (hs : st0 = As.reverse ++ st) (d : decode cc pc = .ok (.invokestatic idx, 3)) (kk : ∀ (r : Int) (μ' : gf_M), gf_RL r → Po r μ' → gf_G X E Q nL φ μ' (pc + 3) lv (.long (gf_l r) :: st)) : gf_G X E Q nL φ μ pc lv st0 := by
  subst hs
  exact fun H locs ls hl hW hS => gf_backl hl hS (gf_runS C hl.1 w M hR hr.1 hr.2.1 hst d ⟨by omega, by omega⟩ hW hS) kk
theorem gf_callVl {ci N : Nat} {T : u_T} {k : Int} {Po : Int → gf_M → Prop} {st0 : List Value} (C : gf_C X E cc nL own rm) (w : gf_kV own idx y cd mL (some .long) As.length) (q : gf_cl ci y.cls T N) (hk : gf_is φ.2.2.1 k 0 ci N) (M : gf_Ml (gf_xl X) E y cd mL rm' φ.2.2.1 φ.2.2.2 μ (.ref (gf_ad E k) :: As) Po) (hR : gf_rok rm rm' mL = true) (hr : rm'.cells = 0 ∧ rm'.slots = 0 ∧ φ.1 = 0 ∧ φ.2.1 = 0) (hst : (st.map fun v => v.category).sum ≤ 8) (hs : st0 = As.reverse ++ .ref (gf_ad E k) :: st) (d : decode cc pc = .ok (.invokevirtual idx, 3)) (kk : ∀ (r : Int) (μ' : gf_M), gf_RL r → Po r μ' → gf_G X E Q nL φ μ' (pc + 3) lv (.long (gf_l r) :: st)) : gf_G X E Q nL φ μ pc lv st0 := by
  subst hs
  exact fun H locs ls hl hW hS => gf_backl hl hS (gf_runV C hl.1 w q hk M hR hr.1 hr.2.1 hst d ⟨by omega, by omega⟩ hW hS) kk
theorem gf_callSv {Po : gf_M → Prop} {st0 : List Value} (C : gf_C X E cc nL own rm) (w : gf_kS own idx y cd mL none As.length) (M : gf_Mv (gf_xl X) E y cd mL rm' φ.2.2.1 φ.2.2.2 0 0 φ.2.2.1 φ.2.2.2 μ As Po) (hR : gf_rok rm rm' mL = true) (hr : rm'.cells = 0 ∧ rm'.slots = 0 ∧ φ.1 = 0 ∧ φ.2.1 = 0) (hst : (st.map fun v => v.category).sum ≤ 8) (hs : st0 = As.reverse ++ st) (d : decode cc pc = .ok (.invokestatic idx, 3)) (kk : ∀ (μ' : gf_M), Po μ' → gf_G X E Q nL φ μ' (pc + 3) lv st) : gf_G X E Q nL φ μ pc lv st0 := by
  subst hs
  exact fun H locs ls hl hW hS => gf_backv hl hS (gf_runS C hl.1 w M hR hr.1 hr.2.1 hst d ⟨by omega, by omega⟩ hW hS) kk
theorem gf_callNv {host : String} {Po : gf_M → Prop} {st0 : List Value} (C : gf_C X E cc nL own rm) (w : gf_kN y cd mL none As.length) (hn : va_Nw (.methodLinkNest own idx y host) (gf_xs X)) (M : gf_Mv (gf_xl X) E y cd mL rm' φ.2.2.1 φ.2.2.2 0 0 φ.2.2.1 φ.2.2.2 μ As Po) (hR : gf_rok rm rm' mL = true) (hr : rm'.cells = 0 ∧ rm'.slots = 0 ∧ φ.1 = 0 ∧ φ.2.1 = 0) (hst : (st.map fun v => v.category).sum ≤ 8) (hs : st0 = As.reverse ++ st) (d : decode cc pc = .ok (.invokestatic idx, 3)) (kk : ∀ (μ' : gf_M), Po μ' → gf_G X E Q nL φ μ' (pc + 3) lv st) : gf_G X E Q nL φ μ pc lv st0 := by
  subst hs
  exact fun H locs ls hl hW hS => gf_backv hl hS (gf_runN C hl.1 w hn M hR hr.1 hr.2.1 hst d ⟨by omega, by omega⟩ hW hS) kk
theorem gf_callVv {ci N : Nat} {T : u_T} {k : Int} {Po : gf_M → Prop} {st0 : List Value} (C : gf_C X E cc nL own rm) (w : gf_kV own idx y cd mL none As.length) (q : gf_cl ci y.cls T N) (hk : gf_is φ.2.2.1 k 0 ci N) (M : gf_Mv (gf_xl X) E y cd mL rm' φ.2.2.1 φ.2.2.2 0 0 φ.2.2.1 φ.2.2.2 μ (.ref (gf_ad E k) :: As) Po) (hR : gf_rok rm rm' mL = true) (hr : rm'.cells = 0 ∧ rm'.slots = 0 ∧ φ.1 = 0 ∧ φ.2.1 = 0) (hst : (st.map fun v => v.category).sum ≤ 8) (hs : st0 = As.reverse ++ .ref (gf_ad E k) :: st) (d : decode cc pc = .ok (.invokevirtual idx, 3)) (kk : ∀ (μ' : gf_M), Po μ' → gf_G X E Q nL φ μ' (pc + 3) lv st) : gf_G X E Q nL φ μ pc lv st0 := by
  subst hs
  exact fun H locs ls hl hW hS => gf_backv hl hS (gf_runV C hl.1 w q hk M hR hr.1 hr.2.1 hst d ⟨by omega, by omega⟩ hW hS) kk
end GF5
/-! shapes of objects of which there are several -/
abbrev gf_φ : gf_F := (0, 0, 81, gf_ref)
def gf_oGd (k : Int) : Prop := gf_is 81 k 0 0 3
def gf_oRow (k : Int) (N : Nat) : Prop := gf_is 81 k 0 3 2 ∧ gf_ref k 0 = k + 1 ∧ gf_is 81 (k + 1) 1 0 N
def gf_oWr (k : Int) : Prop := gf_is 81 k 0 5 5 ∧ gf_ref k 0 = k + 1 ∧ gf_is 81 (k + 1) 1 0 8 ∧ gf_ref k 3 = k + 2 ∧ gf_is 81 (k + 2) 1 0 40
theorem gf_row_of {r : Int} (h : 0 ≤ r ∧ r < 6) : gf_ref 1 r = 2 + 2 * r ∧ gf_oRow (2 + 2 * r) 40 := by
  have : r = 0 ∨ r = 1 ∨ r = 2 ∨ r = 3 ∨ r = 4 ∨ r = 5 := by omega
  rcases this with rfl | rfl | rfl | rfl | rfl | rfl <;> exact ⟨by decide, by decide, by decide, by decide⟩
theorem gf_text_of {r : Int} (h : 0 ≤ r ∧ r < 4) : gf_ref 14 r = 15 + 2 * r ∧ gf_oRow (15 + 2 * r) 60 := by
  have : r = 0 ∨ r = 1 ∨ r = 2 ∨ r = 3 := by omega
  rcases this with rfl | rfl | rfl | rfl <;> exact ⟨by decide, by decide, by decide, by decide⟩
theorem gf_guard_of {r : Int} (h : 0 ≤ r ∧ r < 7) : gf_ref 23 r = 24 + r ∧ gf_oGd (24 + r) := by
  have : r = 0 ∨ r = 1 ∨ r = 2 ∨ r = 3 ∨ r = 4 ∨ r = 5 ∨ r = 6 := by omega
  rcases this with rfl | rfl | rfl | rfl | rfl | rfl | rfl <;> exact ⟨by decide, by unfold gf_oGd; decide⟩
theorem gf_rguard_of {r : Int} (h : 0 ≤ r ∧ r < 7) : gf_ref 45 r = 46 + r ∧ gf_oGd (46 + r) := by
  have : r = 0 ∨ r = 1 ∨ r = 2 ∨ r = 3 ∨ r = 4 ∨ r = 5 ∨ r = 6 := by omega
  rcases this with rfl | rfl | rfl | rfl | rfl | rfl | rfl <;> exact ⟨by decide, by unfold gf_oGd; decide⟩
theorem gf_kept_of {r : Int} (h : 0 ≤ r ∧ r < 3) : gf_ref 31 r = 32 + 3 * r ∧ gf_oWr (32 + 3 * r) := by
  have : r = 0 ∨ r = 1 ∨ r = 2 := by omega
  rcases this with rfl | rfl | rfl <;> exact ⟨by decide, by decide, by decide, by decide, by decide, by decide⟩
theorem gf_oWr41 : gf_oWr 41 := ⟨by decide, by decide, by decide, by decide, by decide⟩
end
section
/-! the words of calls, fields and constants (printed by wip/whole/gen_links.py) -/
set_option maxRecDepth 100000 in
theorem im_Fi_init : Cond.code yy_Fi_init cc_Fi_init 2 none ∈ gf_tbl ∧ Cond.instanceMethod yy_Fi_init ∈ gf_tbl ∧ Cond.initialized yy_Fi_init.cls ∈ gf_tbl := ⟨gf_mem 87 rfl (by decide +kernel), gf_mem 86 (by decide +kernel) (by decide +kernel), gf_mem 72 (by decide +kernel) (by decide +kernel)⟩
set_option maxRecDepth 100000 in
theorem im_Ro_init : Cond.code yy_Ro_init cc_Ro_init 2 none ∈ gf_tbl ∧ Cond.instanceMethod yy_Ro_init ∈ gf_tbl ∧ Cond.initialized yy_Ro_init.cls ∈ gf_tbl := ⟨gf_mem 96 rfl (by decide +kernel), gf_mem 95 (by decide +kernel) (by decide +kernel), gf_mem 73 (by decide +kernel) (by decide +kernel)⟩
set_option maxRecDepth 100000 in
theorem im_Gd_init : Cond.code yy_Gd_init cc_Gd_init 1 none ∈ gf_tbl ∧ Cond.instanceMethod yy_Gd_init ∈ gf_tbl ∧ Cond.initialized yy_Gd_init.cls ∈ gf_tbl := ⟨gf_mem 117 rfl (by decide +kernel), gf_mem 116 (by decide +kernel) (by decide +kernel), gf_mem 74 (by decide +kernel) (by decide +kernel)⟩
set_option maxRecDepth 100000 in
theorem im_Wr_init : Cond.code yy_Wr_init cc_Wr_init 1 none ∈ gf_tbl ∧ Cond.instanceMethod yy_Wr_init ∈ gf_tbl ∧ Cond.initialized yy_Wr_init.cls ∈ gf_tbl := ⟨gf_mem 140 rfl (by decide +kernel), gf_mem 139 (by decide +kernel) (by decide +kernel), gf_mem 75 (by decide +kernel) (by decide +kernel)⟩
set_option maxRecDepth 100000 in
theorem im_Re_init : Cond.code yy_Re_init cc_Re_init 2 none ∈ gf_tbl ∧ Cond.instanceMethod yy_Re_init ∈ gf_tbl ∧ Cond.initialized yy_Re_init.cls ∈ gf_tbl := ⟨gf_mem 169 rfl (by decide +kernel), gf_mem 168 (by decide +kernel) (by decide +kernel), gf_mem 76 (by decide +kernel) (by decide +kernel)⟩
set_option maxRecDepth 100000 in
theorem im_Wa_init : Cond.code yy_Wa_init cc_Wa_init 1 none ∈ gf_tbl ∧ Cond.instanceMethod yy_Wa_init ∈ gf_tbl ∧ Cond.initialized yy_Wa_init.cls ∈ gf_tbl := ⟨gf_mem 186 rfl (by decide +kernel), gf_mem 185 (by decide +kernel) (by decide +kernel), gf_mem 77 (by decide +kernel) (by decide +kernel)⟩
set_option maxRecDepth 100000 in
theorem im_Ou_init : Cond.code yy_Ou_init cc_Ou_init 1 none ∈ gf_tbl ∧ Cond.instanceMethod yy_Ou_init ∈ gf_tbl ∧ Cond.initialized yy_Ou_init.cls ∈ gf_tbl := ⟨gf_mem 212 rfl (by decide +kernel), gf_mem 211 (by decide +kernel) (by decide +kernel), gf_mem 78 (by decide +kernel) (by decide +kernel)⟩
set_option maxRecDepth 100000 in
theorem im_Fi_row : Cond.code yy_Fi_row cc_Fi_row 3 (some .int) ∈ gf_tbl ∧ Cond.instanceMethod yy_Fi_row ∈ gf_tbl ∧ Cond.selects yy_Fi_row.cls yy_Fi_row yy_Fi_row ∈ gf_tbl ∧ Cond.initialized yy_Fi_row.cls ∈ gf_tbl := ⟨gf_mem 278 rfl (by decide +kernel), gf_mem 276 (by decide +kernel) (by decide +kernel), gf_mem 277 (by decide +kernel) (by decide +kernel), gf_mem 72 (by decide +kernel) (by decide +kernel)⟩
set_option maxRecDepth 100000 in
theorem im_Fi_isWithin : gf_kN yy_Fi_isWithin cc_Fi_isWithin 2 (some .boolean) 2 := ⟨gf_mem 281 rfl (by decide +kernel), gf_mem 280 (by decide +kernel) (by decide +kernel), gf_mem 72 (by decide +kernel) (by decide +kernel), by decide +kernel, by decide +kernel, by decide +kernel⟩
set_option maxRecDepth 100000 in
theorem im_Fi_renew : Cond.code yy_Fi_renew cc_Fi_renew 4 (some .int) ∈ gf_tbl ∧ Cond.instanceMethod yy_Fi_renew ∈ gf_tbl ∧ Cond.selects yy_Fi_renew.cls yy_Fi_renew yy_Fi_renew ∈ gf_tbl ∧ Cond.initialized yy_Fi_renew.cls ∈ gf_tbl := ⟨gf_mem 285 rfl (by decide +kernel), gf_mem 284 (by decide +kernel) (by decide +kernel), gf_mem 0 (by decide +kernel) (by decide +kernel), gf_mem 72 (by decide +kernel) (by decide +kernel)⟩
set_option maxRecDepth 100000 in
theorem im_Fi_found : Cond.code yy_Fi_found cc_Fi_found 2 (some .int) ∈ gf_tbl ∧ Cond.instanceMethod yy_Fi_found ∈ gf_tbl ∧ Cond.selects yy_Fi_found.cls yy_Fi_found yy_Fi_found ∈ gf_tbl ∧ Cond.initialized yy_Fi_found.cls ∈ gf_tbl := ⟨gf_mem 289 rfl (by decide +kernel), gf_mem 288 (by decide +kernel) (by decide +kernel), gf_mem 1 (by decide +kernel) (by decide +kernel), gf_mem 72 (by decide +kernel) (by decide +kernel)⟩
set_option maxRecDepth 100000 in
theorem im_Ro_renew : Cond.code yy_Ro_renew cc_Ro_renew 4 none ∈ gf_tbl ∧ Cond.instanceMethod yy_Ro_renew ∈ gf_tbl ∧ Cond.selects yy_Ro_renew.cls yy_Ro_renew yy_Ro_renew ∈ gf_tbl ∧ Cond.initialized yy_Ro_renew.cls ∈ gf_tbl := ⟨gf_mem 293 rfl (by decide +kernel), gf_mem 291 (by decide +kernel) (by decide +kernel), gf_mem 292 (by decide +kernel) (by decide +kernel), gf_mem 73 (by decide +kernel) (by decide +kernel)⟩
set_option maxRecDepth 100000 in
theorem im_Fi_lay : Cond.code yy_Fi_lay cc_Fi_lay 5 (some .int) ∈ gf_tbl ∧ Cond.instanceMethod yy_Fi_lay ∈ gf_tbl ∧ Cond.selects yy_Fi_lay.cls yy_Fi_lay yy_Fi_lay ∈ gf_tbl ∧ Cond.initialized yy_Fi_lay.cls ∈ gf_tbl := ⟨gf_mem 300 rfl (by decide +kernel), gf_mem 298 (by decide +kernel) (by decide +kernel), gf_mem 299 (by decide +kernel) (by decide +kernel), gf_mem 72 (by decide +kernel) (by decide +kernel)⟩
set_option maxRecDepth 100000 in
theorem im_Fi_refusedPlace : Cond.code yy_Fi_refusedPlace cc_Fi_refusedPlace 3 (some .int) ∈ gf_tbl ∧ Cond.instanceMethod yy_Fi_refusedPlace ∈ gf_tbl ∧ Cond.selects yy_Fi_refusedPlace.cls yy_Fi_refusedPlace yy_Fi_refusedPlace ∈ gf_tbl ∧ Cond.initialized yy_Fi_refusedPlace.cls ∈ gf_tbl := ⟨gf_mem 304 rfl (by decide +kernel), gf_mem 303 (by decide +kernel) (by decide +kernel), gf_mem 2 (by decide +kernel) (by decide +kernel), gf_mem 72 (by decide +kernel) (by decide +kernel)⟩
set_option maxRecDepth 100000 in
theorem im_Ro_isThere : Cond.code yy_Ro_isThere cc_Ro_isThere 1 (some .boolean) ∈ gf_tbl ∧ Cond.instanceMethod yy_Ro_isThere ∈ gf_tbl ∧ Cond.selects yy_Ro_isThere.cls yy_Ro_isThere yy_Ro_isThere ∈ gf_tbl ∧ Cond.initialized yy_Ro_isThere.cls ∈ gf_tbl := ⟨gf_mem 308 rfl (by decide +kernel), gf_mem 306 (by decide +kernel) (by decide +kernel), gf_mem 307 (by decide +kernel) (by decide +kernel), gf_mem 73 (by decide +kernel) (by decide +kernel)⟩
set_option maxRecDepth 100000 in
theorem im_Ro_hasPlaces : Cond.code yy_Ro_hasPlaces cc_Ro_hasPlaces 3 (some .boolean) ∈ gf_tbl ∧ Cond.instanceMethod yy_Ro_hasPlaces ∈ gf_tbl ∧ Cond.selects yy_Ro_hasPlaces.cls yy_Ro_hasPlaces yy_Ro_hasPlaces ∈ gf_tbl ∧ Cond.initialized yy_Ro_hasPlaces.cls ∈ gf_tbl := ⟨gf_mem 312 rfl (by decide +kernel), gf_mem 310 (by decide +kernel) (by decide +kernel), gf_mem 311 (by decide +kernel) (by decide +kernel), gf_mem 73 (by decide +kernel) (by decide +kernel)⟩
set_option maxRecDepth 100000 in
theorem im_Ro_replace : Cond.code yy_Ro_replace cc_Ro_replace 4 (some .int) ∈ gf_tbl ∧ Cond.instanceMethod yy_Ro_replace ∈ gf_tbl ∧ Cond.selects yy_Ro_replace.cls yy_Ro_replace yy_Ro_replace ∈ gf_tbl ∧ Cond.initialized yy_Ro_replace.cls ∈ gf_tbl := ⟨gf_mem 316 rfl (by decide +kernel), gf_mem 314 (by decide +kernel) (by decide +kernel), gf_mem 315 (by decide +kernel) (by decide +kernel), gf_mem 73 (by decide +kernel) (by decide +kernel)⟩
set_option maxRecDepth 100000 in
theorem im_Fi_tell : Cond.code yy_Fi_tell cc_Fi_tell 2 (some .int) ∈ gf_tbl ∧ Cond.instanceMethod yy_Fi_tell ∈ gf_tbl ∧ Cond.selects yy_Fi_tell.cls yy_Fi_tell yy_Fi_tell ∈ gf_tbl ∧ Cond.initialized yy_Fi_tell.cls ∈ gf_tbl := ⟨gf_mem 320 rfl (by decide +kernel), gf_mem 319 (by decide +kernel) (by decide +kernel), gf_mem 3 (by decide +kernel) (by decide +kernel), gf_mem 72 (by decide +kernel) (by decide +kernel)⟩
set_option maxRecDepth 100000 in
theorem im_Fi_at : Cond.code yy_Fi_at cc_Fi_at 4 (some .int) ∈ gf_tbl ∧ Cond.instanceMethod yy_Fi_at ∈ gf_tbl ∧ Cond.selects yy_Fi_at.cls yy_Fi_at yy_Fi_at ∈ gf_tbl ∧ Cond.initialized yy_Fi_at.cls ∈ gf_tbl := ⟨gf_mem 324 rfl (by decide +kernel), gf_mem 322 (by decide +kernel) (by decide +kernel), gf_mem 323 (by decide +kernel) (by decide +kernel), gf_mem 72 (by decide +kernel) (by decide +kernel)⟩
set_option maxRecDepth 100000 in
theorem im_Fi_tear : Cond.code yy_Fi_tear cc_Fi_tear 2 (some .int) ∈ gf_tbl ∧ Cond.instanceMethod yy_Fi_tear ∈ gf_tbl ∧ Cond.selects yy_Fi_tear.cls yy_Fi_tear yy_Fi_tear ∈ gf_tbl ∧ Cond.initialized yy_Fi_tear.cls ∈ gf_tbl := ⟨gf_mem 328 rfl (by decide +kernel), gf_mem 326 (by decide +kernel) (by decide +kernel), gf_mem 327 (by decide +kernel) (by decide +kernel), gf_mem 72 (by decide +kernel) (by decide +kernel)⟩
set_option maxRecDepth 100000 in
theorem im_Fi_copy : Cond.code yy_Fi_copy cc_Fi_copy 6 (some .int) ∈ gf_tbl ∧ Cond.instanceMethod yy_Fi_copy ∈ gf_tbl ∧ Cond.selects yy_Fi_copy.cls yy_Fi_copy yy_Fi_copy ∈ gf_tbl ∧ Cond.initialized yy_Fi_copy.cls ∈ gf_tbl := ⟨gf_mem 332 rfl (by decide +kernel), gf_mem 330 (by decide +kernel) (by decide +kernel), gf_mem 331 (by decide +kernel) (by decide +kernel), gf_mem 72 (by decide +kernel) (by decide +kernel)⟩
set_option maxRecDepth 100000 in
theorem im_Fi_mean : Cond.code yy_Fi_mean cc_Fi_mean 3 (some .int) ∈ gf_tbl ∧ Cond.instanceMethod yy_Fi_mean ∈ gf_tbl ∧ Cond.selects yy_Fi_mean.cls yy_Fi_mean yy_Fi_mean ∈ gf_tbl ∧ Cond.initialized yy_Fi_mean.cls ∈ gf_tbl := ⟨gf_mem 339 rfl (by decide +kernel), gf_mem 337 (by decide +kernel) (by decide +kernel), gf_mem 338 (by decide +kernel) (by decide +kernel), gf_mem 72 (by decide +kernel) (by decide +kernel)⟩
set_option maxRecDepth 100000 in
theorem im_Ro_sum : Cond.code yy_Ro_sum cc_Ro_sum 4 (some .long) ∈ gf_tbl ∧ Cond.instanceMethod yy_Ro_sum ∈ gf_tbl ∧ Cond.selects yy_Ro_sum.cls yy_Ro_sum yy_Ro_sum ∈ gf_tbl ∧ Cond.initialized yy_Ro_sum.cls ∈ gf_tbl := ⟨gf_mem 343 rfl (by decide +kernel), gf_mem 341 (by decide +kernel) (by decide +kernel), gf_mem 342 (by decide +kernel) (by decide +kernel), gf_mem 73 (by decide +kernel) (by decide +kernel)⟩
set_option maxRecDepth 100000 in
theorem im_Fi_text : Cond.code yy_Fi_text cc_Fi_text 3 (some .int) ∈ gf_tbl ∧ Cond.instanceMethod yy_Fi_text ∈ gf_tbl ∧ Cond.selects yy_Fi_text.cls yy_Fi_text yy_Fi_text ∈ gf_tbl ∧ Cond.initialized yy_Fi_text.cls ∈ gf_tbl := ⟨gf_mem 347 rfl (by decide +kernel), gf_mem 345 (by decide +kernel) (by decide +kernel), gf_mem 346 (by decide +kernel) (by decide +kernel), gf_mem 72 (by decide +kernel) (by decide +kernel)⟩
set_option maxRecDepth 100000 in
theorem im_Fi_put : Cond.code yy_Fi_put cc_Fi_put 4 (some .int) ∈ gf_tbl ∧ Cond.instanceMethod yy_Fi_put ∈ gf_tbl ∧ Cond.selects yy_Fi_put.cls yy_Fi_put yy_Fi_put ∈ gf_tbl ∧ Cond.initialized yy_Fi_put.cls ∈ gf_tbl := ⟨gf_mem 351 rfl (by decide +kernel), gf_mem 349 (by decide +kernel) (by decide +kernel), gf_mem 350 (by decide +kernel) (by decide +kernel), gf_mem 72 (by decide +kernel) (by decide +kernel)⟩
set_option maxRecDepth 100000 in
theorem im_Fi_fault : Cond.code yy_Fi_fault cc_Fi_fault 2 (some .int) ∈ gf_tbl ∧ Cond.instanceMethod yy_Fi_fault ∈ gf_tbl ∧ Cond.selects yy_Fi_fault.cls yy_Fi_fault yy_Fi_fault ∈ gf_tbl ∧ Cond.initialized yy_Fi_fault.cls ∈ gf_tbl := ⟨gf_mem 355 rfl (by decide +kernel), gf_mem 353 (by decide +kernel) (by decide +kernel), gf_mem 354 (by decide +kernel) (by decide +kernel), gf_mem 72 (by decide +kernel) (by decide +kernel)⟩
set_option maxRecDepth 100000 in
theorem im_Re_read : Cond.code yy_Re_read cc_Re_read 5 (some .int) ∈ gf_tbl ∧ Cond.instanceMethod yy_Re_read ∈ gf_tbl ∧ Cond.selects yy_Re_read.cls yy_Re_read yy_Re_read ∈ gf_tbl ∧ Cond.initialized yy_Re_read.cls ∈ gf_tbl := ⟨gf_mem 359 rfl (by decide +kernel), gf_mem 357 (by decide +kernel) (by decide +kernel), gf_mem 358 (by decide +kernel) (by decide +kernel), gf_mem 76 (by decide +kernel) (by decide +kernel)⟩
set_option maxRecDepth 100000 in
theorem im_Re_readGuard : Cond.code yy_Re_readGuard cc_Re_readGuard 5 (some .int) ∈ gf_tbl ∧ Cond.instanceMethod yy_Re_readGuard ∈ gf_tbl ∧ Cond.selects yy_Re_readGuard.cls yy_Re_readGuard yy_Re_readGuard ∈ gf_tbl ∧ Cond.initialized yy_Re_readGuard.cls ∈ gf_tbl := ⟨gf_mem 363 rfl (by decide +kernel), gf_mem 362 (by decide +kernel) (by decide +kernel), gf_mem 4 (by decide +kernel) (by decide +kernel), gf_mem 76 (by decide +kernel) (by decide +kernel)⟩
set_option maxRecDepth 100000 in
theorem im_Re_kindOf : gf_kN yy_Re_kindOf cc_Re_kindOf 2 (some .int) 1 := ⟨gf_mem 366 rfl (by decide +kernel), gf_mem 365 (by decide +kernel) (by decide +kernel), gf_mem 76 (by decide +kernel) (by decide +kernel), by decide +kernel, by decide +kernel, by decide +kernel⟩
set_option maxRecDepth 100000 in
theorem im_Fi_house : Cond.code yy_Fi_house cc_Fi_house 3 (some .int) ∈ gf_tbl ∧ Cond.instanceMethod yy_Fi_house ∈ gf_tbl ∧ Cond.selects yy_Fi_house.cls yy_Fi_house yy_Fi_house ∈ gf_tbl ∧ Cond.initialized yy_Fi_house.cls ∈ gf_tbl := ⟨gf_mem 373 rfl (by decide +kernel), gf_mem 371 (by decide +kernel) (by decide +kernel), gf_mem 372 (by decide +kernel) (by decide +kernel), gf_mem 72 (by decide +kernel) (by decide +kernel)⟩
set_option maxRecDepth 100000 in
theorem im_Gd_resemble : Cond.code yy_Gd_resemble cc_Gd_resemble 2 none ∈ gf_tbl ∧ Cond.instanceMethod yy_Gd_resemble ∈ gf_tbl ∧ Cond.selects yy_Gd_resemble.cls yy_Gd_resemble yy_Gd_resemble ∈ gf_tbl ∧ Cond.initialized yy_Gd_resemble.cls ∈ gf_tbl := ⟨gf_mem 377 rfl (by decide +kernel), gf_mem 375 (by decide +kernel) (by decide +kernel), gf_mem 376 (by decide +kernel) (by decide +kernel), gf_mem 74 (by decide +kernel) (by decide +kernel)⟩
set_option maxRecDepth 100000 in
theorem im_Wr_clear : Cond.code yy_Wr_clear cc_Wr_clear 1 none ∈ gf_tbl ∧ Cond.instanceMethod yy_Wr_clear ∈ gf_tbl ∧ Cond.selects yy_Wr_clear.cls yy_Wr_clear yy_Wr_clear ∈ gf_tbl ∧ Cond.initialized yy_Wr_clear.cls ∈ gf_tbl := ⟨gf_mem 381 rfl (by decide +kernel), gf_mem 379 (by decide +kernel) (by decide +kernel), gf_mem 380 (by decide +kernel) (by decide +kernel), gf_mem 75 (by decide +kernel) (by decide +kernel)⟩
set_option maxRecDepth 100000 in
theorem im_Fi_guard : Cond.code yy_Fi_guard cc_Fi_guard 3 (some .int) ∈ gf_tbl ∧ Cond.instanceMethod yy_Fi_guard ∈ gf_tbl ∧ Cond.selects yy_Fi_guard.cls yy_Fi_guard yy_Fi_guard ∈ gf_tbl ∧ Cond.initialized yy_Fi_guard.cls ∈ gf_tbl := ⟨gf_mem 385 rfl (by decide +kernel), gf_mem 383 (by decide +kernel) (by decide +kernel), gf_mem 384 (by decide +kernel) (by decide +kernel), gf_mem 72 (by decide +kernel) (by decide +kernel)⟩
set_option maxRecDepth 100000 in
theorem im_Fi_isGuard : Cond.code yy_Fi_isGuard cc_Fi_isGuard 2 (some .boolean) ∈ gf_tbl ∧ Cond.instanceMethod yy_Fi_isGuard ∈ gf_tbl ∧ Cond.selects yy_Fi_isGuard.cls yy_Fi_isGuard yy_Fi_isGuard ∈ gf_tbl ∧ Cond.initialized yy_Fi_isGuard.cls ∈ gf_tbl := ⟨gf_mem 389 rfl (by decide +kernel), gf_mem 388 (by decide +kernel) (by decide +kernel), gf_mem 5 (by decide +kernel) (by decide +kernel), gf_mem 72 (by decide +kernel) (by decide +kernel)⟩
set_option maxRecDepth 100000 in
theorem im_Fi_ofGuard : Cond.code yy_Fi_ofGuard cc_Fi_ofGuard 3 (some .int) ∈ gf_tbl ∧ Cond.instanceMethod yy_Fi_ofGuard ∈ gf_tbl ∧ Cond.selects yy_Fi_ofGuard.cls yy_Fi_ofGuard yy_Fi_ofGuard ∈ gf_tbl ∧ Cond.initialized yy_Fi_ofGuard.cls ∈ gf_tbl := ⟨gf_mem 393 rfl (by decide +kernel), gf_mem 392 (by decide +kernel) (by decide +kernel), gf_mem 6 (by decide +kernel) (by decide +kernel), gf_mem 72 (by decide +kernel) (by decide +kernel)⟩
set_option maxRecDepth 100000 in
theorem im_Fi_reckoned : Cond.code yy_Fi_reckoned cc_Fi_reckoned 2 (some .int) ∈ gf_tbl ∧ Cond.instanceMethod yy_Fi_reckoned ∈ gf_tbl ∧ Cond.selects yy_Fi_reckoned.cls yy_Fi_reckoned yy_Fi_reckoned ∈ gf_tbl ∧ Cond.initialized yy_Fi_reckoned.cls ∈ gf_tbl := ⟨gf_mem 397 rfl (by decide +kernel), gf_mem 396 (by decide +kernel) (by decide +kernel), gf_mem 7 (by decide +kernel) (by decide +kernel), gf_mem 72 (by decide +kernel) (by decide +kernel)⟩
set_option maxRecDepth 100000 in
theorem im_Gd_reckon : Cond.code yy_Gd_reckon cc_Gd_reckon 5 (some .int) ∈ gf_tbl ∧ Cond.instanceMethod yy_Gd_reckon ∈ gf_tbl ∧ Cond.selects yy_Gd_reckon.cls yy_Gd_reckon yy_Gd_reckon ∈ gf_tbl ∧ Cond.initialized yy_Gd_reckon.cls ∈ gf_tbl := ⟨gf_mem 401 rfl (by decide +kernel), gf_mem 399 (by decide +kernel) (by decide +kernel), gf_mem 400 (by decide +kernel) (by decide +kernel), gf_mem 74 (by decide +kernel) (by decide +kernel)⟩
set_option maxRecDepth 100000 in
theorem im_Gd_follow : Cond.code yy_Gd_follow cc_Gd_follow 5 (some .int) ∈ gf_tbl ∧ Cond.instanceMethod yy_Gd_follow ∈ gf_tbl ∧ Cond.selects yy_Gd_follow.cls yy_Gd_follow yy_Gd_follow ∈ gf_tbl ∧ Cond.initialized yy_Gd_follow.cls ∈ gf_tbl := ⟨gf_mem 405 rfl (by decide +kernel), gf_mem 403 (by decide +kernel) (by decide +kernel), gf_mem 404 (by decide +kernel) (by decide +kernel), gf_mem 74 (by decide +kernel) (by decide +kernel)⟩
set_option maxRecDepth 100000 in
theorem im_Gd_weight : Cond.code yy_Gd_weight cc_Gd_weight 2 (some .int) ∈ gf_tbl ∧ Cond.instanceMethod yy_Gd_weight ∈ gf_tbl ∧ Cond.selects yy_Gd_weight.cls yy_Gd_weight yy_Gd_weight ∈ gf_tbl ∧ Cond.initialized yy_Gd_weight.cls ∈ gf_tbl := ⟨gf_mem 409 rfl (by decide +kernel), gf_mem 408 (by decide +kernel) (by decide +kernel), gf_mem 8 (by decide +kernel) (by decide +kernel), gf_mem 74 (by decide +kernel) (by decide +kernel)⟩
set_option maxRecDepth 100000 in
theorem im_Gd_crossSum : gf_kN yy_Gd_crossSum cc_Gd_crossSum 1 (some .int) 1 := ⟨gf_mem 412 rfl (by decide +kernel), gf_mem 411 (by decide +kernel) (by decide +kernel), gf_mem 74 (by decide +kernel) (by decide +kernel), by decide +kernel, by decide +kernel, by decide +kernel⟩
set_option maxRecDepth 100000 in
theorem im_Gd_finish : Cond.code yy_Gd_finish cc_Gd_finish 3 (some .int) ∈ gf_tbl ∧ Cond.instanceMethod yy_Gd_finish ∈ gf_tbl ∧ Cond.selects yy_Gd_finish.cls yy_Gd_finish yy_Gd_finish ∈ gf_tbl ∧ Cond.initialized yy_Gd_finish.cls ∈ gf_tbl := ⟨gf_mem 416 rfl (by decide +kernel), gf_mem 414 (by decide +kernel) (by decide +kernel), gf_mem 415 (by decide +kernel) (by decide +kernel), gf_mem 74 (by decide +kernel) (by decide +kernel)⟩
set_option maxRecDepth 100000 in
theorem im_Wa_look : Cond.code yy_Wa_look cc_Wa_look 7 none ∈ gf_tbl ∧ Cond.instanceMethod yy_Wa_look ∈ gf_tbl ∧ Cond.selects yy_Wa_look.cls yy_Wa_look yy_Wa_look ∈ gf_tbl ∧ Cond.initialized yy_Wa_look.cls ∈ gf_tbl := ⟨gf_mem 420 rfl (by decide +kernel), gf_mem 418 (by decide +kernel) (by decide +kernel), gf_mem 419 (by decide +kernel) (by decide +kernel), gf_mem 77 (by decide +kernel) (by decide +kernel)⟩
set_option maxRecDepth 100000 in
theorem im_Wa_listThings : Cond.code yy_Wa_listThings cc_Wa_listThings 4 none ∈ gf_tbl ∧ Cond.instanceMethod yy_Wa_listThings ∈ gf_tbl ∧ Cond.selects yy_Wa_listThings.cls yy_Wa_listThings yy_Wa_listThings ∈ gf_tbl ∧ Cond.initialized yy_Wa_listThings.cls ∈ gf_tbl := ⟨gf_mem 424 rfl (by decide +kernel), gf_mem 423 (by decide +kernel) (by decide +kernel), gf_mem 9 (by decide +kernel) (by decide +kernel), gf_mem 77 (by decide +kernel) (by decide +kernel)⟩
set_option maxRecDepth 100000 in
theorem im_Wa_list : Cond.code yy_Wa_list cc_Wa_list 2 none ∈ gf_tbl ∧ Cond.instanceMethod yy_Wa_list ∈ gf_tbl ∧ Cond.selects yy_Wa_list.cls yy_Wa_list yy_Wa_list ∈ gf_tbl ∧ Cond.initialized yy_Wa_list.cls ∈ gf_tbl := ⟨gf_mem 428 rfl (by decide +kernel), gf_mem 427 (by decide +kernel) (by decide +kernel), gf_mem 10 (by decide +kernel) (by decide +kernel), gf_mem 77 (by decide +kernel) (by decide +kernel)⟩
set_option maxRecDepth 100000 in
theorem im_Wa_listExchanges : Cond.code yy_Wa_listExchanges cc_Wa_listExchanges 4 none ∈ gf_tbl ∧ Cond.instanceMethod yy_Wa_listExchanges ∈ gf_tbl ∧ Cond.selects yy_Wa_listExchanges.cls yy_Wa_listExchanges yy_Wa_listExchanges ∈ gf_tbl ∧ Cond.initialized yy_Wa_listExchanges.cls ∈ gf_tbl := ⟨gf_mem 432 rfl (by decide +kernel), gf_mem 431 (by decide +kernel) (by decide +kernel), gf_mem 11 (by decide +kernel) (by decide +kernel), gf_mem 77 (by decide +kernel) (by decide +kernel)⟩
set_option maxRecDepth 100000 in
theorem im_Wa_copyWith : Cond.code yy_Wa_copyWith cc_Wa_copyWith 3 none ∈ gf_tbl ∧ Cond.instanceMethod yy_Wa_copyWith ∈ gf_tbl ∧ Cond.selects yy_Wa_copyWith.cls yy_Wa_copyWith yy_Wa_copyWith ∈ gf_tbl ∧ Cond.initialized yy_Wa_copyWith.cls ∈ gf_tbl := ⟨gf_mem 437 rfl (by decide +kernel), gf_mem 436 (by decide +kernel) (by decide +kernel), gf_mem 12 (by decide +kernel) (by decide +kernel), gf_mem 77 (by decide +kernel) (by decide +kernel)⟩
set_option maxRecDepth 100000 in
theorem im_Fi_exchange : gf_kN yy_Fi_exchange cc_Fi_exchange 4 none 3 := ⟨gf_mem 441 rfl (by decide +kernel), gf_mem 440 (by decide +kernel) (by decide +kernel), gf_mem 72 (by decide +kernel) (by decide +kernel), by decide +kernel, by decide +kernel, by decide +kernel⟩
set_option maxRecDepth 100000 in
theorem im_Wa_unseen : Cond.code yy_Wa_unseen cc_Wa_unseen 5 (some .int) ∈ gf_tbl ∧ Cond.instanceMethod yy_Wa_unseen ∈ gf_tbl ∧ Cond.selects yy_Wa_unseen.cls yy_Wa_unseen yy_Wa_unseen ∈ gf_tbl ∧ Cond.initialized yy_Wa_unseen.cls ∈ gf_tbl := ⟨gf_mem 445 rfl (by decide +kernel), gf_mem 443 (by decide +kernel) (by decide +kernel), gf_mem 444 (by decide +kernel) (by decide +kernel), gf_mem 77 (by decide +kernel) (by decide +kernel)⟩
set_option maxRecDepth 100000 in
theorem im_Wa_startOf : Cond.code yy_Wa_startOf cc_Wa_startOf 2 (some .int) ∈ gf_tbl ∧ Cond.instanceMethod yy_Wa_startOf ∈ gf_tbl ∧ Cond.selects yy_Wa_startOf.cls yy_Wa_startOf yy_Wa_startOf ∈ gf_tbl ∧ Cond.initialized yy_Wa_startOf.cls ∈ gf_tbl := ⟨gf_mem 449 rfl (by decide +kernel), gf_mem 448 (by decide +kernel) (by decide +kernel), gf_mem 13 (by decide +kernel) (by decide +kernel), gf_mem 77 (by decide +kernel) (by decide +kernel)⟩
set_option maxRecDepth 100000 in
theorem im_Wa_isNoticed : Cond.code yy_Wa_isNoticed cc_Wa_isNoticed 3 (some .boolean) ∈ gf_tbl ∧ Cond.instanceMethod yy_Wa_isNoticed ∈ gf_tbl ∧ Cond.selects yy_Wa_isNoticed.cls yy_Wa_isNoticed yy_Wa_isNoticed ∈ gf_tbl ∧ Cond.initialized yy_Wa_isNoticed.cls ∈ gf_tbl := ⟨gf_mem 453 rfl (by decide +kernel), gf_mem 452 (by decide +kernel) (by decide +kernel), gf_mem 14 (by decide +kernel) (by decide +kernel), gf_mem 77 (by decide +kernel) (by decide +kernel)⟩
set_option maxRecDepth 100000 in
theorem im_Fi_mark : Cond.code yy_Fi_mark cc_Fi_mark 3 (some .int) ∈ gf_tbl ∧ Cond.instanceMethod yy_Fi_mark ∈ gf_tbl ∧ Cond.selects yy_Fi_mark.cls yy_Fi_mark yy_Fi_mark ∈ gf_tbl ∧ Cond.initialized yy_Fi_mark.cls ∈ gf_tbl := ⟨gf_mem 457 rfl (by decide +kernel), gf_mem 455 (by decide +kernel) (by decide +kernel), gf_mem 456 (by decide +kernel) (by decide +kernel), gf_mem 72 (by decide +kernel) (by decide +kernel)⟩
set_option maxRecDepth 100000 in
theorem im_Gd_is : Cond.code yy_Gd_is cc_Gd_is 4 (some .boolean) ∈ gf_tbl ∧ Cond.instanceMethod yy_Gd_is ∈ gf_tbl ∧ Cond.selects yy_Gd_is.cls yy_Gd_is yy_Gd_is ∈ gf_tbl ∧ Cond.initialized yy_Gd_is.cls ∈ gf_tbl := ⟨gf_mem 461 rfl (by decide +kernel), gf_mem 459 (by decide +kernel) (by decide +kernel), gf_mem 460 (by decide +kernel) (by decide +kernel), gf_mem 74 (by decide +kernel) (by decide +kernel)⟩
set_option maxRecDepth 100000 in
theorem im_Fi_figure : Cond.code yy_Fi_figure cc_Fi_figure 2 (some .int) ∈ gf_tbl ∧ Cond.instanceMethod yy_Fi_figure ∈ gf_tbl ∧ Cond.selects yy_Fi_figure.cls yy_Fi_figure yy_Fi_figure ∈ gf_tbl ∧ Cond.initialized yy_Fi_figure.cls ∈ gf_tbl := ⟨gf_mem 471 rfl (by decide +kernel), gf_mem 469 (by decide +kernel) (by decide +kernel), gf_mem 470 (by decide +kernel) (by decide +kernel), gf_mem 72 (by decide +kernel) (by decide +kernel)⟩
set_option maxRecDepth 100000 in
theorem im_Fi_add : Cond.code yy_Fi_add cc_Fi_add 2 (some .int) ∈ gf_tbl ∧ Cond.instanceMethod yy_Fi_add ∈ gf_tbl ∧ Cond.selects yy_Fi_add.cls yy_Fi_add yy_Fi_add ∈ gf_tbl ∧ Cond.initialized yy_Fi_add.cls ∈ gf_tbl := ⟨gf_mem 475 rfl (by decide +kernel), gf_mem 473 (by decide +kernel) (by decide +kernel), gf_mem 474 (by decide +kernel) (by decide +kernel), gf_mem 72 (by decide +kernel) (by decide +kernel)⟩
set_option maxRecDepth 100000 in
theorem im_Wr_remember : Cond.code yy_Wr_remember cc_Wr_remember 3 none ∈ gf_tbl ∧ Cond.instanceMethod yy_Wr_remember ∈ gf_tbl ∧ Cond.selects yy_Wr_remember.cls yy_Wr_remember yy_Wr_remember ∈ gf_tbl ∧ Cond.initialized yy_Wr_remember.cls ∈ gf_tbl := ⟨gf_mem 479 rfl (by decide +kernel), gf_mem 477 (by decide +kernel) (by decide +kernel), gf_mem 478 (by decide +kernel) (by decide +kernel), gf_mem 75 (by decide +kernel) (by decide +kernel)⟩
set_option maxRecDepth 100000 in
theorem im_Wr_append : Cond.code yy_Wr_append cc_Wr_append 2 none ∈ gf_tbl ∧ Cond.instanceMethod yy_Wr_append ∈ gf_tbl ∧ Cond.selects yy_Wr_append.cls yy_Wr_append yy_Wr_append ∈ gf_tbl ∧ Cond.initialized yy_Wr_append.cls ∈ gf_tbl := ⟨gf_mem 483 rfl (by decide +kernel), gf_mem 481 (by decide +kernel) (by decide +kernel), gf_mem 482 (by decide +kernel) (by decide +kernel), gf_mem 75 (by decide +kernel) (by decide +kernel)⟩
set_option maxRecDepth 100000 in
theorem im_Fi_drop : Cond.code yy_Fi_drop cc_Fi_drop 1 (some .int) ∈ gf_tbl ∧ Cond.instanceMethod yy_Fi_drop ∈ gf_tbl ∧ Cond.selects yy_Fi_drop.cls yy_Fi_drop yy_Fi_drop ∈ gf_tbl ∧ Cond.initialized yy_Fi_drop.cls ∈ gf_tbl := ⟨gf_mem 487 rfl (by decide +kernel), gf_mem 485 (by decide +kernel) (by decide +kernel), gf_mem 486 (by decide +kernel) (by decide +kernel), gf_mem 72 (by decide +kernel) (by decide +kernel)⟩
set_option maxRecDepth 100000 in
theorem im_Wr_removeLast : Cond.code yy_Wr_removeLast cc_Wr_removeLast 1 (some .int) ∈ gf_tbl ∧ Cond.instanceMethod yy_Wr_removeLast ∈ gf_tbl ∧ Cond.selects yy_Wr_removeLast.cls yy_Wr_removeLast yy_Wr_removeLast ∈ gf_tbl ∧ Cond.initialized yy_Wr_removeLast.cls ∈ gf_tbl := ⟨gf_mem 491 rfl (by decide +kernel), gf_mem 489 (by decide +kernel) (by decide +kernel), gf_mem 490 (by decide +kernel) (by decide +kernel), gf_mem 75 (by decide +kernel) (by decide +kernel)⟩
set_option maxRecDepth 100000 in
theorem im_Fi_change : Cond.code yy_Fi_change cc_Fi_change 4 (some .int) ∈ gf_tbl ∧ Cond.instanceMethod yy_Fi_change ∈ gf_tbl ∧ Cond.selects yy_Fi_change.cls yy_Fi_change yy_Fi_change ∈ gf_tbl ∧ Cond.initialized yy_Fi_change.cls ∈ gf_tbl := ⟨gf_mem 495 rfl (by decide +kernel), gf_mem 493 (by decide +kernel) (by decide +kernel), gf_mem 494 (by decide +kernel) (by decide +kernel), gf_mem 72 (by decide +kernel) (by decide +kernel)⟩
set_option maxRecDepth 100000 in
theorem im_Fi_swap : Cond.code yy_Fi_swap cc_Fi_swap 2 (some .int) ∈ gf_tbl ∧ Cond.instanceMethod yy_Fi_swap ∈ gf_tbl ∧ Cond.selects yy_Fi_swap.cls yy_Fi_swap yy_Fi_swap ∈ gf_tbl ∧ Cond.initialized yy_Fi_swap.cls ∈ gf_tbl := ⟨gf_mem 499 rfl (by decide +kernel), gf_mem 497 (by decide +kernel) (by decide +kernel), gf_mem 498 (by decide +kernel) (by decide +kernel), gf_mem 72 (by decide +kernel) (by decide +kernel)⟩
set_option maxRecDepth 100000 in
theorem im_Fi_undo : Cond.code yy_Fi_undo cc_Fi_undo 3 (some .int) ∈ gf_tbl ∧ Cond.instanceMethod yy_Fi_undo ∈ gf_tbl ∧ Cond.selects yy_Fi_undo.cls yy_Fi_undo yy_Fi_undo ∈ gf_tbl ∧ Cond.initialized yy_Fi_undo.cls ∈ gf_tbl := ⟨gf_mem 504 rfl (by decide +kernel), gf_mem 502 (by decide +kernel) (by decide +kernel), gf_mem 503 (by decide +kernel) (by decide +kernel), gf_mem 72 (by decide +kernel) (by decide +kernel)⟩
set_option maxRecDepth 100000 in
theorem im_Wr_goBackTo : Cond.code yy_Wr_goBackTo cc_Wr_goBackTo 4 none ∈ gf_tbl ∧ Cond.instanceMethod yy_Wr_goBackTo ∈ gf_tbl ∧ Cond.selects yy_Wr_goBackTo.cls yy_Wr_goBackTo yy_Wr_goBackTo ∈ gf_tbl ∧ Cond.initialized yy_Wr_goBackTo.cls ∈ gf_tbl := ⟨gf_mem 508 rfl (by decide +kernel), gf_mem 506 (by decide +kernel) (by decide +kernel), gf_mem 507 (by decide +kernel) (by decide +kernel), gf_mem 75 (by decide +kernel) (by decide +kernel)⟩
set_option maxRecDepth 100000 in
theorem im_Fi_keep : Cond.code yy_Fi_keep cc_Fi_keep 2 (some .int) ∈ gf_tbl ∧ Cond.instanceMethod yy_Fi_keep ∈ gf_tbl ∧ Cond.selects yy_Fi_keep.cls yy_Fi_keep yy_Fi_keep ∈ gf_tbl ∧ Cond.initialized yy_Fi_keep.cls ∈ gf_tbl := ⟨gf_mem 512 rfl (by decide +kernel), gf_mem 510 (by decide +kernel) (by decide +kernel), gf_mem 511 (by decide +kernel) (by decide +kernel), gf_mem 72 (by decide +kernel) (by decide +kernel)⟩
set_option maxRecDepth 100000 in
theorem im_Wr_resemble : Cond.code yy_Wr_resemble cc_Wr_resemble 2 none ∈ gf_tbl ∧ Cond.instanceMethod yy_Wr_resemble ∈ gf_tbl ∧ Cond.selects yy_Wr_resemble.cls yy_Wr_resemble yy_Wr_resemble ∈ gf_tbl ∧ Cond.initialized yy_Wr_resemble.cls ∈ gf_tbl := ⟨gf_mem 516 rfl (by decide +kernel), gf_mem 514 (by decide +kernel) (by decide +kernel), gf_mem 515 (by decide +kernel) (by decide +kernel), gf_mem 75 (by decide +kernel) (by decide +kernel)⟩
set_option maxRecDepth 100000 in
theorem im_Fi_on : Cond.code yy_Fi_on cc_Fi_on 2 (some .int) ∈ gf_tbl ∧ Cond.instanceMethod yy_Fi_on ∈ gf_tbl ∧ Cond.selects yy_Fi_on.cls yy_Fi_on yy_Fi_on ∈ gf_tbl ∧ Cond.initialized yy_Fi_on.cls ∈ gf_tbl := ⟨gf_mem 521 rfl (by decide +kernel), gf_mem 519 (by decide +kernel) (by decide +kernel), gf_mem 520 (by decide +kernel) (by decide +kernel), gf_mem 72 (by decide +kernel) (by decide +kernel)⟩
set_option maxRecDepth 100000 in
theorem im_Fi_slips : Cond.code yy_Fi_slips cc_Fi_slips 2 (some .int) ∈ gf_tbl ∧ Cond.instanceMethod yy_Fi_slips ∈ gf_tbl ∧ Cond.selects yy_Fi_slips.cls yy_Fi_slips yy_Fi_slips ∈ gf_tbl ∧ Cond.initialized yy_Fi_slips.cls ∈ gf_tbl := ⟨gf_mem 525 rfl (by decide +kernel), gf_mem 523 (by decide +kernel) (by decide +kernel), gf_mem 524 (by decide +kernel) (by decide +kernel), gf_mem 72 (by decide +kernel) (by decide +kernel)⟩
set_option maxRecDepth 100000 in
theorem im_Fi_tellUnseen : Cond.code yy_Fi_tellUnseen cc_Fi_tellUnseen 4 (some .int) ∈ gf_tbl ∧ Cond.instanceMethod yy_Fi_tellUnseen ∈ gf_tbl ∧ Cond.selects yy_Fi_tellUnseen.cls yy_Fi_tellUnseen yy_Fi_tellUnseen ∈ gf_tbl ∧ Cond.initialized yy_Fi_tellUnseen.cls ∈ gf_tbl := ⟨gf_mem 529 rfl (by decide +kernel), gf_mem 528 (by decide +kernel) (by decide +kernel), gf_mem 15 (by decide +kernel) (by decide +kernel), gf_mem 72 (by decide +kernel) (by decide +kernel)⟩
set_option maxRecDepth 100000 in
theorem im_Wa_firstUnseen : Cond.code yy_Wa_firstUnseen cc_Wa_firstUnseen 4 (some .int) ∈ gf_tbl ∧ Cond.instanceMethod yy_Wa_firstUnseen ∈ gf_tbl ∧ Cond.selects yy_Wa_firstUnseen.cls yy_Wa_firstUnseen yy_Wa_firstUnseen ∈ gf_tbl ∧ Cond.initialized yy_Wa_firstUnseen.cls ∈ gf_tbl := ⟨gf_mem 533 rfl (by decide +kernel), gf_mem 531 (by decide +kernel) (by decide +kernel), gf_mem 532 (by decide +kernel) (by decide +kernel), gf_mem 77 (by decide +kernel) (by decide +kernel)⟩
set_option maxRecDepth 100000 in
theorem im_Fi_swaps : Cond.code yy_Fi_swaps cc_Fi_swaps 2 (some .int) ∈ gf_tbl ∧ Cond.instanceMethod yy_Fi_swaps ∈ gf_tbl ∧ Cond.selects yy_Fi_swaps.cls yy_Fi_swaps yy_Fi_swaps ∈ gf_tbl ∧ Cond.initialized yy_Fi_swaps.cls ∈ gf_tbl := ⟨gf_mem 537 rfl (by decide +kernel), gf_mem 535 (by decide +kernel) (by decide +kernel), gf_mem 536 (by decide +kernel) (by decide +kernel), gf_mem 72 (by decide +kernel) (by decide +kernel)⟩
set_option maxRecDepth 100000 in
theorem im_Fi_jumps : Cond.code yy_Fi_jumps cc_Fi_jumps 2 (some .int) ∈ gf_tbl ∧ Cond.instanceMethod yy_Fi_jumps ∈ gf_tbl ∧ Cond.selects yy_Fi_jumps.cls yy_Fi_jumps yy_Fi_jumps ∈ gf_tbl ∧ Cond.initialized yy_Fi_jumps.cls ∈ gf_tbl := ⟨gf_mem 541 rfl (by decide +kernel), gf_mem 539 (by decide +kernel) (by decide +kernel), gf_mem 540 (by decide +kernel) (by decide +kernel), gf_mem 72 (by decide +kernel) (by decide +kernel)⟩
set_option maxRecDepth 100000 in
theorem im_Fi_best : Cond.code yy_Fi_best cc_Fi_best 5 (some .int) ∈ gf_tbl ∧ Cond.instanceMethod yy_Fi_best ∈ gf_tbl ∧ Cond.selects yy_Fi_best.cls yy_Fi_best yy_Fi_best ∈ gf_tbl ∧ Cond.initialized yy_Fi_best.cls ∈ gf_tbl := ⟨gf_mem 545 rfl (by decide +kernel), gf_mem 543 (by decide +kernel) (by decide +kernel), gf_mem 544 (by decide +kernel) (by decide +kernel), gf_mem 72 (by decide +kernel) (by decide +kernel)⟩
set_option maxRecDepth 100000 in
theorem im_Wa_unseen2 : Cond.code yy_Wa_unseen2 cc_Wa_unseen2 2 (some .int) ∈ gf_tbl ∧ Cond.instanceMethod yy_Wa_unseen2 ∈ gf_tbl ∧ Cond.selects yy_Wa_unseen2.cls yy_Wa_unseen2 yy_Wa_unseen2 ∈ gf_tbl ∧ Cond.initialized yy_Wa_unseen2.cls ∈ gf_tbl := ⟨gf_mem 549 rfl (by decide +kernel), gf_mem 547 (by decide +kernel) (by decide +kernel), gf_mem 548 (by decide +kernel) (by decide +kernel), gf_mem 77 (by decide +kernel) (by decide +kernel)⟩
set_option maxRecDepth 100000 in
theorem im_Fi_cover : Cond.code yy_Fi_cover cc_Fi_cover 4 (some .int) ∈ gf_tbl ∧ Cond.instanceMethod yy_Fi_cover ∈ gf_tbl ∧ Cond.selects yy_Fi_cover.cls yy_Fi_cover yy_Fi_cover ∈ gf_tbl ∧ Cond.initialized yy_Fi_cover.cls ∈ gf_tbl := ⟨gf_mem 554 rfl (by decide +kernel), gf_mem 552 (by decide +kernel) (by decide +kernel), gf_mem 553 (by decide +kernel) (by decide +kernel), gf_mem 72 (by decide +kernel) (by decide +kernel)⟩
set_option maxRecDepth 100000 in
theorem im_In_bitCount : gf_kN yy_In_bitCount cc_In_bitCount 1 (some .int) 1 := ⟨gf_mem 557 rfl (by decide +kernel), gf_mem 556 (by decide +kernel) (by decide +kernel), gf_mem 82 (by decide +kernel) (by decide +kernel), by decide +kernel, by decide +kernel, by decide +kernel⟩
set_option maxRecDepth 100000 in
theorem im_Wa_isCoveredBy : Cond.code yy_Wa_isCoveredBy cc_Wa_isCoveredBy 3 (some .boolean) ∈ gf_tbl ∧ Cond.instanceMethod yy_Wa_isCoveredBy ∈ gf_tbl ∧ Cond.selects yy_Wa_isCoveredBy.cls yy_Wa_isCoveredBy yy_Wa_isCoveredBy ∈ gf_tbl ∧ Cond.initialized yy_Wa_isCoveredBy.cls ∈ gf_tbl := ⟨gf_mem 564 rfl (by decide +kernel), gf_mem 562 (by decide +kernel) (by decide +kernel), gf_mem 563 (by decide +kernel) (by decide +kernel), gf_mem 77 (by decide +kernel) (by decide +kernel)⟩
set_option maxRecDepth 100000 in
theorem im_Fi_next : Cond.code yy_Fi_next cc_Fi_next 5 (some .int) ∈ gf_tbl ∧ Cond.instanceMethod yy_Fi_next ∈ gf_tbl ∧ Cond.selects yy_Fi_next.cls yy_Fi_next yy_Fi_next ∈ gf_tbl ∧ Cond.initialized yy_Fi_next.cls ∈ gf_tbl := ⟨gf_mem 568 rfl (by decide +kernel), gf_mem 566 (by decide +kernel) (by decide +kernel), gf_mem 567 (by decide +kernel) (by decide +kernel), gf_mem 72 (by decide +kernel) (by decide +kernel)⟩
set_option maxRecDepth 100000 in
theorem im_Fi_isCheck : gf_kN yy_Fi_isCheck cc_Fi_isCheck 1 (some .boolean) 1 := ⟨gf_mem 571 rfl (by decide +kernel), gf_mem 570 (by decide +kernel) (by decide +kernel), gf_mem 72 (by decide +kernel) (by decide +kernel), by decide +kernel, by decide +kernel, by decide +kernel⟩
set_option maxRecDepth 100000 in
theorem im_Fi_reckonedWith : Cond.code yy_Fi_reckonedWith cc_Fi_reckonedWith 4 (some .int) ∈ gf_tbl ∧ Cond.instanceMethod yy_Fi_reckonedWith ∈ gf_tbl ∧ Cond.selects yy_Fi_reckonedWith.cls yy_Fi_reckonedWith yy_Fi_reckonedWith ∈ gf_tbl ∧ Cond.initialized yy_Fi_reckonedWith.cls ∈ gf_tbl := ⟨gf_mem 575 rfl (by decide +kernel), gf_mem 574 (by decide +kernel) (by decide +kernel), gf_mem 16 (by decide +kernel) (by decide +kernel), gf_mem 72 (by decide +kernel) (by decide +kernel)⟩
set_option maxRecDepth 100000 in
theorem im_Fi_near : Cond.code yy_Fi_near cc_Fi_near 4 (some .int) ∈ gf_tbl ∧ Cond.instanceMethod yy_Fi_near ∈ gf_tbl ∧ Cond.selects yy_Fi_near.cls yy_Fi_near yy_Fi_near ∈ gf_tbl ∧ Cond.initialized yy_Fi_near.cls ∈ gf_tbl := ⟨gf_mem 579 rfl (by decide +kernel), gf_mem 577 (by decide +kernel) (by decide +kernel), gf_mem 578 (by decide +kernel) (by decide +kernel), gf_mem 72 (by decide +kernel) (by decide +kernel)⟩
set_option maxRecDepth 100000 in
theorem im_Ou_fewestOthers : Cond.code yy_Ou_fewestOthers cc_Ou_fewestOthers 10 (some .int) ∈ gf_tbl ∧ Cond.instanceMethod yy_Ou_fewestOthers ∈ gf_tbl ∧ Cond.selects yy_Ou_fewestOthers.cls yy_Ou_fewestOthers yy_Ou_fewestOthers ∈ gf_tbl ∧ Cond.initialized yy_Ou_fewestOthers.cls ∈ gf_tbl := ⟨gf_mem 583 rfl (by decide +kernel), gf_mem 581 (by decide +kernel) (by decide +kernel), gf_mem 582 (by decide +kernel) (by decide +kernel), gf_mem 78 (by decide +kernel) (by decide +kernel)⟩
set_option maxRecDepth 100000 in
theorem im_Ou_endWithCheck : Cond.code yy_Ou_endWithCheck cc_Ou_endWithCheck 7 none ∈ gf_tbl ∧ Cond.instanceMethod yy_Ou_endWithCheck ∈ gf_tbl ∧ Cond.selects yy_Ou_endWithCheck.cls yy_Ou_endWithCheck yy_Ou_endWithCheck ∈ gf_tbl ∧ Cond.initialized yy_Ou_endWithCheck.cls ∈ gf_tbl := ⟨gf_mem 587 rfl (by decide +kernel), gf_mem 586 (by decide +kernel) (by decide +kernel), gf_mem 17 (by decide +kernel) (by decide +kernel), gf_mem 78 (by decide +kernel) (by decide +kernel)⟩
set_option maxRecDepth 100000 in
theorem im_Ou_keepValue : Cond.code yy_Ou_keepValue cc_Ou_keepValue 6 none ∈ gf_tbl ∧ Cond.instanceMethod yy_Ou_keepValue ∈ gf_tbl ∧ Cond.selects yy_Ou_keepValue.cls yy_Ou_keepValue yy_Ou_keepValue ∈ gf_tbl ∧ Cond.initialized yy_Ou_keepValue.cls ∈ gf_tbl := ⟨gf_mem 592 rfl (by decide +kernel), gf_mem 591 (by decide +kernel) (by decide +kernel), gf_mem 18 (by decide +kernel) (by decide +kernel), gf_mem 78 (by decide +kernel) (by decide +kernel)⟩
set_option maxRecDepth 100000 in
theorem im_Ou_othersWith : Cond.code yy_Ou_othersWith cc_Ou_othersWith 7 (some .long) ∈ gf_tbl ∧ Cond.instanceMethod yy_Ou_othersWith ∈ gf_tbl ∧ Cond.selects yy_Ou_othersWith.cls yy_Ou_othersWith yy_Ou_othersWith ∈ gf_tbl ∧ Cond.initialized yy_Ou_othersWith.cls ∈ gf_tbl := ⟨gf_mem 598 rfl (by decide +kernel), gf_mem 597 (by decide +kernel) (by decide +kernel), gf_mem 19 (by decide +kernel) (by decide +kernel), gf_mem 78 (by decide +kernel) (by decide +kernel)⟩
set_option maxRecDepth 100000 in
theorem im_Ou_valueOf : Cond.code yy_Ou_valueOf cc_Ou_valueOf 4 (some .long) ∈ gf_tbl ∧ Cond.instanceMethod yy_Ou_valueOf ∈ gf_tbl ∧ Cond.selects yy_Ou_valueOf.cls yy_Ou_valueOf yy_Ou_valueOf ∈ gf_tbl ∧ Cond.initialized yy_Ou_valueOf.cls ∈ gf_tbl := ⟨gf_mem 603 rfl (by decide +kernel), gf_mem 602 (by decide +kernel) (by decide +kernel), gf_mem 20 (by decide +kernel) (by decide +kernel), gf_mem 78 (by decide +kernel) (by decide +kernel)⟩
set_option maxRecDepth 100000 in
theorem im_Fi_fills : Cond.code yy_Fi_fills cc_Fi_fills 6 (some .int) ∈ gf_tbl ∧ Cond.instanceMethod yy_Fi_fills ∈ gf_tbl ∧ Cond.selects yy_Fi_fills.cls yy_Fi_fills yy_Fi_fills ∈ gf_tbl ∧ Cond.initialized yy_Fi_fills.cls ∈ gf_tbl := ⟨gf_mem 610 rfl (by decide +kernel), gf_mem 608 (by decide +kernel) (by decide +kernel), gf_mem 609 (by decide +kernel) (by decide +kernel), gf_mem 72 (by decide +kernel) (by decide +kernel)⟩
set_option maxRecDepth 100000 in
theorem im_Fi_isSmearedNumber : gf_kN yy_Fi_isSmearedNumber cc_Fi_isSmearedNumber 3 (some .boolean) 1 := ⟨gf_mem 613 rfl (by decide +kernel), gf_mem 612 (by decide +kernel) (by decide +kernel), gf_mem 72 (by decide +kernel) (by decide +kernel), by decide +kernel, by decide +kernel, by decide +kernel⟩
set_option maxRecDepth 100000 in
theorem im_Ou_waysToFill : Cond.code yy_Ou_waysToFill cc_Ou_waysToFill 10 (some .int) ∈ gf_tbl ∧ Cond.instanceMethod yy_Ou_waysToFill ∈ gf_tbl ∧ Cond.selects yy_Ou_waysToFill.cls yy_Ou_waysToFill yy_Ou_waysToFill ∈ gf_tbl ∧ Cond.initialized yy_Ou_waysToFill.cls ∈ gf_tbl := ⟨gf_mem 617 rfl (by decide +kernel), gf_mem 615 (by decide +kernel) (by decide +kernel), gf_mem 616 (by decide +kernel) (by decide +kernel), gf_mem 78 (by decide +kernel) (by decide +kernel)⟩
set_option maxRecDepth 100000 in
theorem im_Ou_waysWith : Cond.code yy_Ou_waysWith cc_Ou_waysWith 6 (some .long) ∈ gf_tbl ∧ Cond.instanceMethod yy_Ou_waysWith ∈ gf_tbl ∧ Cond.selects yy_Ou_waysWith.cls yy_Ou_waysWith yy_Ou_waysWith ∈ gf_tbl ∧ Cond.initialized yy_Ou_waysWith.cls ∈ gf_tbl := ⟨gf_mem 621 rfl (by decide +kernel), gf_mem 620 (by decide +kernel) (by decide +kernel), gf_mem 21 (by decide +kernel) (by decide +kernel), gf_mem 78 (by decide +kernel) (by decide +kernel)⟩
set_option maxRecDepth 100000 in
theorem im_Fi_kinds : Cond.code yy_Fi_kinds cc_Fi_kinds 4 (some .int) ∈ gf_tbl ∧ Cond.instanceMethod yy_Fi_kinds ∈ gf_tbl ∧ Cond.selects yy_Fi_kinds.cls yy_Fi_kinds yy_Fi_kinds ∈ gf_tbl ∧ Cond.initialized yy_Fi_kinds.cls ∈ gf_tbl := ⟨gf_mem 625 rfl (by decide +kernel), gf_mem 623 (by decide +kernel) (by decide +kernel), gf_mem 624 (by decide +kernel) (by decide +kernel), gf_mem 72 (by decide +kernel) (by decide +kernel)⟩
set_option maxRecDepth 100000 in
theorem im_Fi_refusedExample : Cond.code yy_Fi_refusedExample cc_Fi_refusedExample 4 (some .int) ∈ gf_tbl ∧ Cond.instanceMethod yy_Fi_refusedExample ∈ gf_tbl ∧ Cond.selects yy_Fi_refusedExample.cls yy_Fi_refusedExample yy_Fi_refusedExample ∈ gf_tbl ∧ Cond.initialized yy_Fi_refusedExample.cls ∈ gf_tbl := ⟨gf_mem 629 rfl (by decide +kernel), gf_mem 628 (by decide +kernel) (by decide +kernel), gf_mem 22 (by decide +kernel) (by decide +kernel), gf_mem 72 (by decide +kernel) (by decide +kernel)⟩
set_option maxRecDepth 100000 in
theorem im_Fi_kindsBy : Cond.code yy_Fi_kindsBy cc_Fi_kindsBy 5 (some .int) ∈ gf_tbl ∧ Cond.instanceMethod yy_Fi_kindsBy ∈ gf_tbl ∧ Cond.selects yy_Fi_kindsBy.cls yy_Fi_kindsBy yy_Fi_kindsBy ∈ gf_tbl ∧ Cond.initialized yy_Fi_kindsBy.cls ∈ gf_tbl := ⟨gf_mem 633 rfl (by decide +kernel), gf_mem 632 (by decide +kernel) (by decide +kernel), gf_mem 23 (by decide +kernel) (by decide +kernel), gf_mem 72 (by decide +kernel) (by decide +kernel)⟩
set_option maxRecDepth 100000 in
theorem im_Fi_reckonsAsTold : gf_kN yy_Fi_reckonsAsTold cc_Fi_reckonsAsTold 3 (some .boolean) 2 := ⟨gf_mem 636 rfl (by decide +kernel), gf_mem 635 (by decide +kernel) (by decide +kernel), gf_mem 72 (by decide +kernel) (by decide +kernel), by decide +kernel, by decide +kernel, by decide +kernel⟩
set_option maxRecDepth 100000 in
theorem im_Fi_firsts : Cond.code yy_Fi_firsts cc_Fi_firsts 6 (some .int) ∈ gf_tbl ∧ Cond.instanceMethod yy_Fi_firsts ∈ gf_tbl ∧ Cond.selects yy_Fi_firsts.cls yy_Fi_firsts yy_Fi_firsts ∈ gf_tbl ∧ Cond.initialized yy_Fi_firsts.cls ∈ gf_tbl := ⟨gf_mem 640 rfl (by decide +kernel), gf_mem 638 (by decide +kernel) (by decide +kernel), gf_mem 639 (by decide +kernel) (by decide +kernel), gf_mem 72 (by decide +kernel) (by decide +kernel)⟩
set_option maxRecDepth 100000 in
theorem im_Fi_test : Cond.code yy_Fi_test cc_Fi_test 9 (some .int) ∈ gf_tbl ∧ Cond.instanceMethod yy_Fi_test ∈ gf_tbl ∧ Cond.selects yy_Fi_test.cls yy_Fi_test yy_Fi_test ∈ gf_tbl ∧ Cond.initialized yy_Fi_test.cls ∈ gf_tbl := ⟨gf_mem 644 rfl (by decide +kernel), gf_mem 642 (by decide +kernel) (by decide +kernel), gf_mem 643 (by decide +kernel) (by decide +kernel), gf_mem 72 (by decide +kernel) (by decide +kernel)⟩
set_option maxRecDepth 100000 in
theorem im_Fi_greatestPart : Cond.code yy_Fi_greatestPart cc_Fi_greatestPart 7 (some .int) ∈ gf_tbl ∧ Cond.instanceMethod yy_Fi_greatestPart ∈ gf_tbl ∧ Cond.selects yy_Fi_greatestPart.cls yy_Fi_greatestPart yy_Fi_greatestPart ∈ gf_tbl ∧ Cond.initialized yy_Fi_greatestPart.cls ∈ gf_tbl := ⟨gf_mem 648 rfl (by decide +kernel), gf_mem 647 (by decide +kernel) (by decide +kernel), gf_mem 24 (by decide +kernel) (by decide +kernel), gf_mem 72 (by decide +kernel) (by decide +kernel)⟩
set_option maxRecDepth 100000 in
theorem im_Fi_duel : Cond.code yy_Fi_duel cc_Fi_duel 3 (some .int) ∈ gf_tbl ∧ Cond.instanceMethod yy_Fi_duel ∈ gf_tbl ∧ Cond.selects yy_Fi_duel.cls yy_Fi_duel yy_Fi_duel ∈ gf_tbl ∧ Cond.initialized yy_Fi_duel.cls ∈ gf_tbl := ⟨gf_mem 655 rfl (by decide +kernel), gf_mem 653 (by decide +kernel) (by decide +kernel), gf_mem 654 (by decide +kernel) (by decide +kernel), gf_mem 72 (by decide +kernel) (by decide +kernel)⟩
set_option maxRecDepth 100000 in
theorem im_Ou_endOfTurns : Cond.code yy_Ou_endOfTurns cc_Ou_endOfTurns 8 (some .int) ∈ gf_tbl ∧ Cond.instanceMethod yy_Ou_endOfTurns ∈ gf_tbl ∧ Cond.selects yy_Ou_endOfTurns.cls yy_Ou_endOfTurns yy_Ou_endOfTurns ∈ gf_tbl ∧ Cond.initialized yy_Ou_endOfTurns.cls ∈ gf_tbl := ⟨gf_mem 659 rfl (by decide +kernel), gf_mem 657 (by decide +kernel) (by decide +kernel), gf_mem 658 (by decide +kernel) (by decide +kernel), gf_mem 78 (by decide +kernel) (by decide +kernel)⟩
set_option maxRecDepth 100000 in
theorem im_Ou_endWithReckoned : Cond.code yy_Ou_endWithReckoned cc_Ou_endWithReckoned 4 none ∈ gf_tbl ∧ Cond.instanceMethod yy_Ou_endWithReckoned ∈ gf_tbl ∧ Cond.selects yy_Ou_endWithReckoned.cls yy_Ou_endWithReckoned yy_Ou_endWithReckoned ∈ gf_tbl ∧ Cond.initialized yy_Ou_endWithReckoned.cls ∈ gf_tbl := ⟨gf_mem 664 rfl (by decide +kernel), gf_mem 663 (by decide +kernel) (by decide +kernel), gf_mem 25 (by decide +kernel) (by decide +kernel), gf_mem 78 (by decide +kernel) (by decide +kernel)⟩
set_option maxRecDepth 100000 in
theorem im_Ou_afterBestFigure : Cond.code yy_Ou_afterBestFigure cc_Ou_afterBestFigure 11 (some .long) ∈ gf_tbl ∧ Cond.instanceMethod yy_Ou_afterBestFigure ∈ gf_tbl ∧ Cond.selects yy_Ou_afterBestFigure.cls yy_Ou_afterBestFigure yy_Ou_afterBestFigure ∈ gf_tbl ∧ Cond.initialized yy_Ou_afterBestFigure.cls ∈ gf_tbl := ⟨gf_mem 668 rfl (by decide +kernel), gf_mem 667 (by decide +kernel) (by decide +kernel), gf_mem 26 (by decide +kernel) (by decide +kernel), gf_mem 78 (by decide +kernel) (by decide +kernel)⟩
set_option maxRecDepth 100000 in
theorem im_Fi_odds : Cond.code yy_Fi_odds cc_Fi_odds 5 (some .int) ∈ gf_tbl ∧ Cond.instanceMethod yy_Fi_odds ∈ gf_tbl ∧ Cond.selects yy_Fi_odds.cls yy_Fi_odds yy_Fi_odds ∈ gf_tbl ∧ Cond.initialized yy_Fi_odds.cls ∈ gf_tbl := ⟨gf_mem 675 rfl (by decide +kernel), gf_mem 673 (by decide +kernel) (by decide +kernel), gf_mem 674 (by decide +kernel) (by decide +kernel), gf_mem 72 (by decide +kernel) (by decide +kernel)⟩
set_option maxRecDepth 100000 in
theorem im_Ou_copiesReckonedAlike : Cond.code yy_Ou_copiesReckonedAlike cc_Ou_copiesReckonedAlike 4 (some .long) ∈ gf_tbl ∧ Cond.instanceMethod yy_Ou_copiesReckonedAlike ∈ gf_tbl ∧ Cond.selects yy_Ou_copiesReckonedAlike.cls yy_Ou_copiesReckonedAlike yy_Ou_copiesReckonedAlike ∈ gf_tbl ∧ Cond.initialized yy_Ou_copiesReckonedAlike.cls ∈ gf_tbl := ⟨gf_mem 679 rfl (by decide +kernel), gf_mem 677 (by decide +kernel) (by decide +kernel), gf_mem 678 (by decide +kernel) (by decide +kernel), gf_mem 78 (by decide +kernel) (by decide +kernel)⟩
set_option maxRecDepth 100000 in
theorem im_Ou_overCopies : Cond.code yy_Ou_overCopies cc_Ou_overCopies 13 (some .long) ∈ gf_tbl ∧ Cond.instanceMethod yy_Ou_overCopies ∈ gf_tbl ∧ Cond.selects yy_Ou_overCopies.cls yy_Ou_overCopies yy_Ou_overCopies ∈ gf_tbl ∧ Cond.initialized yy_Ou_overCopies.cls ∈ gf_tbl := ⟨gf_mem 684 rfl (by decide +kernel), gf_mem 683 (by decide +kernel) (by decide +kernel), gf_mem 27 (by decide +kernel) (by decide +kernel), gf_mem 78 (by decide +kernel) (by decide +kernel)⟩
set_option maxRecDepth 100000 in
theorem im_Fi_power : gf_kN yy_Fi_power cc_Fi_power 5 (some .long) 2 := ⟨gf_mem 687 rfl (by decide +kernel), gf_mem 686 (by decide +kernel) (by decide +kernel), gf_mem 72 (by decide +kernel) (by decide +kernel), by decide +kernel, by decide +kernel, by decide +kernel⟩
set_option maxRecDepth 100000 in
theorem im_Fi_tellShare : Cond.code yy_Fi_tellShare cc_Fi_tellShare 7 (some .int) ∈ gf_tbl ∧ Cond.instanceMethod yy_Fi_tellShare ∈ gf_tbl ∧ Cond.selects yy_Fi_tellShare.cls yy_Fi_tellShare yy_Fi_tellShare ∈ gf_tbl ∧ Cond.initialized yy_Fi_tellShare.cls ∈ gf_tbl := ⟨gf_mem 691 rfl (by decide +kernel), gf_mem 690 (by decide +kernel) (by decide +kernel), gf_mem 28 (by decide +kernel) (by decide +kernel), gf_mem 72 (by decide +kernel) (by decide +kernel)⟩
set_option maxRecDepth 100000 in
theorem im_Fi_commonDivisor : gf_kN yy_Fi_commonDivisor cc_Fi_commonDivisor 11 (some .long) 2 := ⟨gf_mem 694 rfl (by decide +kernel), gf_mem 693 (by decide +kernel) (by decide +kernel), gf_mem 72 (by decide +kernel) (by decide +kernel), by decide +kernel, by decide +kernel, by decide +kernel⟩
set_option maxRecDepth 100000 in
theorem im_Fi_mid : Cond.code yy_Fi_mid cc_Fi_mid 3 (some .int) ∈ gf_tbl ∧ Cond.instanceMethod yy_Fi_mid ∈ gf_tbl ∧ Cond.selects yy_Fi_mid.cls yy_Fi_mid yy_Fi_mid ∈ gf_tbl ∧ Cond.initialized yy_Fi_mid.cls ∈ gf_tbl := ⟨gf_mem 698 rfl (by decide +kernel), gf_mem 696 (by decide +kernel) (by decide +kernel), gf_mem 697 (by decide +kernel) (by decide +kernel), gf_mem 72 (by decide +kernel) (by decide +kernel)⟩
set_option maxRecDepth 100000 in
theorem im_Ou_reckonedOverCopies : Cond.code yy_Ou_reckonedOverCopies cc_Ou_reckonedOverCopies 4 (some .long) ∈ gf_tbl ∧ Cond.instanceMethod yy_Ou_reckonedOverCopies ∈ gf_tbl ∧ Cond.selects yy_Ou_reckonedOverCopies.cls yy_Ou_reckonedOverCopies yy_Ou_reckonedOverCopies ∈ gf_tbl ∧ Cond.initialized yy_Ou_reckonedOverCopies.cls ∈ gf_tbl := ⟨gf_mem 702 rfl (by decide +kernel), gf_mem 700 (by decide +kernel) (by decide +kernel), gf_mem 701 (by decide +kernel) (by decide +kernel), gf_mem 78 (by decide +kernel) (by decide +kernel)⟩
set_option maxRecDepth 100000 in
theorem im_Fi_lots : Cond.code yy_Fi_lots cc_Fi_lots 6 (some .int) ∈ gf_tbl ∧ Cond.instanceMethod yy_Fi_lots ∈ gf_tbl ∧ Cond.selects yy_Fi_lots.cls yy_Fi_lots yy_Fi_lots ∈ gf_tbl ∧ Cond.initialized yy_Fi_lots.cls ∈ gf_tbl := ⟨gf_mem 706 rfl (by decide +kernel), gf_mem 704 (by decide +kernel) (by decide +kernel), gf_mem 705 (by decide +kernel) (by decide +kernel), gf_mem 72 (by decide +kernel) (by decide +kernel)⟩
set_option maxRecDepth 100000 in
theorem im_Wr_doByLot : Cond.code yy_Wr_doByLot cc_Wr_doByLot 5 none ∈ gf_tbl ∧ Cond.instanceMethod yy_Wr_doByLot ∈ gf_tbl ∧ Cond.selects yy_Wr_doByLot.cls yy_Wr_doByLot yy_Wr_doByLot ∈ gf_tbl ∧ Cond.initialized yy_Wr_doByLot.cls ∈ gf_tbl := ⟨gf_mem 713 rfl (by decide +kernel), gf_mem 711 (by decide +kernel) (by decide +kernel), gf_mem 712 (by decide +kernel) (by decide +kernel), gf_mem 75 (by decide +kernel) (by decide +kernel)⟩
set_option maxRecDepth 100000 in
theorem im_Fi_asked : Cond.code yy_Fi_asked cc_Fi_asked 1 (some .int) ∈ gf_tbl ∧ Cond.instanceMethod yy_Fi_asked ∈ gf_tbl ∧ Cond.selects yy_Fi_asked.cls yy_Fi_asked yy_Fi_asked ∈ gf_tbl ∧ Cond.initialized yy_Fi_asked.cls ∈ gf_tbl := ⟨gf_mem 720 rfl (by decide +kernel), gf_mem 718 (by decide +kernel) (by decide +kernel), gf_mem 719 (by decide +kernel) (by decide +kernel), gf_mem 72 (by decide +kernel) (by decide +kernel)⟩
set_option maxRecDepth 100000 in
theorem im_Fi_upper : Cond.code yy_Fi_upper cc_Fi_upper 1 (some .long) ∈ gf_tbl ∧ Cond.instanceMethod yy_Fi_upper ∈ gf_tbl ∧ Cond.selects yy_Fi_upper.cls yy_Fi_upper yy_Fi_upper ∈ gf_tbl ∧ Cond.initialized yy_Fi_upper.cls ∈ gf_tbl := ⟨gf_mem 724 rfl (by decide +kernel), gf_mem 722 (by decide +kernel) (by decide +kernel), gf_mem 723 (by decide +kernel) (by decide +kernel), gf_mem 72 (by decide +kernel) (by decide +kernel)⟩
set_option maxRecDepth 100000 in
theorem im_Fi_lower : Cond.code yy_Fi_lower cc_Fi_lower 1 (some .long) ∈ gf_tbl ∧ Cond.instanceMethod yy_Fi_lower ∈ gf_tbl ∧ Cond.selects yy_Fi_lower.cls yy_Fi_lower yy_Fi_lower ∈ gf_tbl ∧ Cond.initialized yy_Fi_lower.cls ∈ gf_tbl := ⟨gf_mem 728 rfl (by decide +kernel), gf_mem 726 (by decide +kernel) (by decide +kernel), gf_mem 727 (by decide +kernel) (by decide +kernel), gf_mem 72 (by decide +kernel) (by decide +kernel)⟩
set_option maxRecDepth 100000 in
theorem im_Fi_count : Cond.code yy_Fi_count cc_Fi_count 2 (some .int) ∈ gf_tbl ∧ Cond.instanceMethod yy_Fi_count ∈ gf_tbl ∧ Cond.selects yy_Fi_count.cls yy_Fi_count yy_Fi_count ∈ gf_tbl ∧ Cond.initialized yy_Fi_count.cls ∈ gf_tbl := ⟨gf_mem 732 rfl (by decide +kernel), gf_mem 730 (by decide +kernel) (by decide +kernel), gf_mem 731 (by decide +kernel) (by decide +kernel), gf_mem 72 (by decide +kernel) (by decide +kernel)⟩
set_option maxRecDepth 100000 in
theorem im_Fi_counted : Cond.code yy_Fi_counted cc_Fi_counted 2 (some .int) ∈ gf_tbl ∧ Cond.instanceMethod yy_Fi_counted ∈ gf_tbl ∧ Cond.selects yy_Fi_counted.cls yy_Fi_counted yy_Fi_counted ∈ gf_tbl ∧ Cond.initialized yy_Fi_counted.cls ∈ gf_tbl := ⟨gf_mem 736 rfl (by decide +kernel), gf_mem 735 (by decide +kernel) (by decide +kernel), gf_mem 29 (by decide +kernel) (by decide +kernel), gf_mem 72 (by decide +kernel) (by decide +kernel)⟩
set_option maxRecDepth 100000 in
theorem im_Fi_asNumber : gf_kN yy_Fi_asNumber cc_Fi_asNumber 4 (some .int) 2 := ⟨gf_mem 739 rfl (by decide +kernel), gf_mem 738 (by decide +kernel) (by decide +kernel), gf_mem 72 (by decide +kernel) (by decide +kernel), by decide +kernel, by decide +kernel, by decide +kernel⟩
set_option maxRecDepth 100000 in
theorem im_Fi_reckonedTogether : Cond.code yy_Fi_reckonedTogether cc_Fi_reckonedTogether 3 (some .int) ∈ gf_tbl ∧ Cond.instanceMethod yy_Fi_reckonedTogether ∈ gf_tbl ∧ Cond.selects yy_Fi_reckonedTogether.cls yy_Fi_reckonedTogether yy_Fi_reckonedTogether ∈ gf_tbl ∧ Cond.initialized yy_Fi_reckonedTogether.cls ∈ gf_tbl := ⟨gf_mem 743 rfl (by decide +kernel), gf_mem 742 (by decide +kernel) (by decide +kernel), gf_mem 30 (by decide +kernel) (by decide +kernel), gf_mem 72 (by decide +kernel) (by decide +kernel)⟩
set_option maxRecDepth 100000 in
theorem im_Fi_noticingAllSlips : Cond.code yy_Fi_noticingAllSlips cc_Fi_noticingAllSlips 3 (some .int) ∈ gf_tbl ∧ Cond.instanceMethod yy_Fi_noticingAllSlips ∈ gf_tbl ∧ Cond.selects yy_Fi_noticingAllSlips.cls yy_Fi_noticingAllSlips yy_Fi_noticingAllSlips ∈ gf_tbl ∧ Cond.initialized yy_Fi_noticingAllSlips.cls ∈ gf_tbl := ⟨gf_mem 747 rfl (by decide +kernel), gf_mem 746 (by decide +kernel) (by decide +kernel), gf_mem 31 (by decide +kernel) (by decide +kernel), gf_mem 72 (by decide +kernel) (by decide +kernel)⟩
set_option maxRecDepth 100000 in
theorem im_Fi_howManyThere : gf_kN yy_Fi_howManyThere cc_Fi_howManyThere 3 (some .int) 1 := ⟨gf_mem 750 rfl (by decide +kernel), gf_mem 749 (by decide +kernel) (by decide +kernel), gf_mem 72 (by decide +kernel) (by decide +kernel), by decide +kernel, by decide +kernel, by decide +kernel⟩
set_option maxRecDepth 100000 in
theorem im_Fi_keptCount : Cond.code yy_Fi_keptCount cc_Fi_keptCount 3 (some .int) ∈ gf_tbl ∧ Cond.instanceMethod yy_Fi_keptCount ∈ gf_tbl ∧ Cond.selects yy_Fi_keptCount.cls yy_Fi_keptCount yy_Fi_keptCount ∈ gf_tbl ∧ Cond.initialized yy_Fi_keptCount.cls ∈ gf_tbl := ⟨gf_mem 754 rfl (by decide +kernel), gf_mem 753 (by decide +kernel) (by decide +kernel), gf_mem 32 (by decide +kernel) (by decide +kernel), gf_mem 72 (by decide +kernel) (by decide +kernel)⟩
set_option maxRecDepth 100000 in
theorem im_Fi_howManyAre : Cond.code yy_Fi_howManyAre cc_Fi_howManyAre 4 (some .int) ∈ gf_tbl ∧ Cond.instanceMethod yy_Fi_howManyAre ∈ gf_tbl ∧ Cond.selects yy_Fi_howManyAre.cls yy_Fi_howManyAre yy_Fi_howManyAre ∈ gf_tbl ∧ Cond.initialized yy_Fi_howManyAre.cls ∈ gf_tbl := ⟨gf_mem 758 rfl (by decide +kernel), gf_mem 757 (by decide +kernel) (by decide +kernel), gf_mem 33 (by decide +kernel) (by decide +kernel), gf_mem 72 (by decide +kernel) (by decide +kernel)⟩
set_option maxRecDepth 100000 in
theorem im_Fi_finding : Cond.code yy_Fi_finding cc_Fi_finding 1 (some .int) ∈ gf_tbl ∧ Cond.instanceMethod yy_Fi_finding ∈ gf_tbl ∧ Cond.selects yy_Fi_finding.cls yy_Fi_finding yy_Fi_finding ∈ gf_tbl ∧ Cond.initialized yy_Fi_finding.cls ∈ gf_tbl := ⟨gf_mem 762 rfl (by decide +kernel), gf_mem 760 (by decide +kernel) (by decide +kernel), gf_mem 761 (by decide +kernel) (by decide +kernel), gf_mem 72 (by decide +kernel) (by decide +kernel)⟩
set_option maxRecDepth 100000 in
theorem im_Fi_findings : Cond.code yy_Fi_findings cc_Fi_findings 2 (some .int) ∈ gf_tbl ∧ Cond.instanceMethod yy_Fi_findings ∈ gf_tbl ∧ Cond.selects yy_Fi_findings.cls yy_Fi_findings yy_Fi_findings ∈ gf_tbl ∧ Cond.initialized yy_Fi_findings.cls ∈ gf_tbl := ⟨gf_mem 766 rfl (by decide +kernel), gf_mem 764 (by decide +kernel) (by decide +kernel), gf_mem 765 (by decide +kernel) (by decide +kernel), gf_mem 72 (by decide +kernel) (by decide +kernel)⟩
set_option maxRecDepth 100000 in
theorem im_Fi_digest : Cond.code yy_Fi_digest cc_Fi_digest 5 (some .long) ∈ gf_tbl ∧ Cond.instanceMethod yy_Fi_digest ∈ gf_tbl ∧ Cond.selects yy_Fi_digest.cls yy_Fi_digest yy_Fi_digest ∈ gf_tbl ∧ Cond.initialized yy_Fi_digest.cls ∈ gf_tbl := ⟨gf_mem 770 rfl (by decide +kernel), gf_mem 768 (by decide +kernel) (by decide +kernel), gf_mem 769 (by decide +kernel) (by decide +kernel), gf_mem 72 (by decide +kernel) (by decide +kernel)⟩
set_option maxRecDepth 100000 in
theorem im_Ro_digestOn : Cond.code yy_Ro_digestOn cc_Ro_digestOn 6 (some .long) ∈ gf_tbl ∧ Cond.instanceMethod yy_Ro_digestOn ∈ gf_tbl ∧ Cond.selects yy_Ro_digestOn.cls yy_Ro_digestOn yy_Ro_digestOn ∈ gf_tbl ∧ Cond.initialized yy_Ro_digestOn.cls ∈ gf_tbl := ⟨gf_mem 776 rfl (by decide +kernel), gf_mem 774 (by decide +kernel) (by decide +kernel), gf_mem 775 (by decide +kernel) (by decide +kernel), gf_mem 73 (by decide +kernel) (by decide +kernel)⟩
set_option maxRecDepth 100000 in
theorem im_Mo_init : Cond.code yy_Mo_init cc_Mo_init 2 none ∈ gf_tbl ∧ Cond.instanceMethod yy_Mo_init ∈ gf_tbl ∧ Cond.initialized yy_Mo_init.cls ∈ gf_tbl := ⟨gf_mem 782 rfl (by decide +kernel), gf_mem 781 (by decide +kernel) (by decide +kernel), gf_mem 79 (by decide +kernel) (by decide +kernel)⟩
set_option maxRecDepth 100000 in
theorem im_Mo_row : Cond.code yy_Mo_row cc_Mo_row 4 (some .int) ∈ gf_tbl ∧ Cond.instanceMethod yy_Mo_row ∈ gf_tbl ∧ Cond.selects yy_Mo_row.cls yy_Mo_row yy_Mo_row ∈ gf_tbl ∧ Cond.initialized yy_Mo_row.cls ∈ gf_tbl := ⟨gf_mem 867 rfl (by decide +kernel), gf_mem 865 (by decide +kernel) (by decide +kernel), gf_mem 866 (by decide +kernel) (by decide +kernel), gf_mem 79 (by decide +kernel) (by decide +kernel)⟩
set_option maxRecDepth 100000 in
theorem im_Mo_isRow : gf_kN yy_Mo_isRow cc_Mo_isRow 1 (some .boolean) 1 := ⟨gf_mem 870 rfl (by decide +kernel), gf_mem 869 (by decide +kernel) (by decide +kernel), gf_mem 79 (by decide +kernel) (by decide +kernel), by decide +kernel, by decide +kernel, by decide +kernel⟩
set_option maxRecDepth 100000 in
theorem im_Mo_in : gf_kN yy_Mo_in cc_Mo_in 6 (some .boolean) 3 := ⟨gf_mem 874 rfl (by decide +kernel), gf_mem 873 (by decide +kernel) (by decide +kernel), gf_mem 79 (by decide +kernel) (by decide +kernel), by decide +kernel, by decide +kernel, by decide +kernel⟩
set_option maxRecDepth 100000 in
theorem im_Mo_find : Cond.code yy_Mo_find cc_Mo_find 2 (some .int) ∈ gf_tbl ∧ Cond.instanceMethod yy_Mo_find ∈ gf_tbl ∧ Cond.selects yy_Mo_find.cls yy_Mo_find yy_Mo_find ∈ gf_tbl ∧ Cond.initialized yy_Mo_find.cls ∈ gf_tbl := ⟨gf_mem 878 rfl (by decide +kernel), gf_mem 877 (by decide +kernel) (by decide +kernel), gf_mem 34 (by decide +kernel) (by decide +kernel), gf_mem 79 (by decide +kernel) (by decide +kernel)⟩
set_option maxRecDepth 100000 in
theorem im_Mo_lay : Cond.code yy_Mo_lay cc_Mo_lay 6 (some .int) ∈ gf_tbl ∧ Cond.instanceMethod yy_Mo_lay ∈ gf_tbl ∧ Cond.selects yy_Mo_lay.cls yy_Mo_lay yy_Mo_lay ∈ gf_tbl ∧ Cond.initialized yy_Mo_lay.cls ∈ gf_tbl := ⟨gf_mem 882 rfl (by decide +kernel), gf_mem 880 (by decide +kernel) (by decide +kernel), gf_mem 881 (by decide +kernel) (by decide +kernel), gf_mem 79 (by decide +kernel) (by decide +kernel)⟩
set_option maxRecDepth 100000 in
theorem im_Mo_lacksPlace : Cond.code yy_Mo_lacksPlace cc_Mo_lacksPlace 3 (some .int) ∈ gf_tbl ∧ Cond.instanceMethod yy_Mo_lacksPlace ∈ gf_tbl ∧ Cond.selects yy_Mo_lacksPlace.cls yy_Mo_lacksPlace yy_Mo_lacksPlace ∈ gf_tbl ∧ Cond.initialized yy_Mo_lacksPlace.cls ∈ gf_tbl := ⟨gf_mem 886 rfl (by decide +kernel), gf_mem 885 (by decide +kernel) (by decide +kernel), gf_mem 35 (by decide +kernel) (by decide +kernel), gf_mem 79 (by decide +kernel) (by decide +kernel)⟩
set_option maxRecDepth 100000 in
theorem im_Mo_tells : Cond.code yy_Mo_tells cc_Mo_tells 2 (some .int) ∈ gf_tbl ∧ Cond.instanceMethod yy_Mo_tells ∈ gf_tbl ∧ Cond.selects yy_Mo_tells.cls yy_Mo_tells yy_Mo_tells ∈ gf_tbl ∧ Cond.initialized yy_Mo_tells.cls ∈ gf_tbl := ⟨gf_mem 890 rfl (by decide +kernel), gf_mem 889 (by decide +kernel) (by decide +kernel), gf_mem 36 (by decide +kernel) (by decide +kernel), gf_mem 79 (by decide +kernel) (by decide +kernel)⟩
set_option maxRecDepth 100000 in
theorem im_Mo_at : Cond.code yy_Mo_at cc_Mo_at 4 (some .int) ∈ gf_tbl ∧ Cond.instanceMethod yy_Mo_at ∈ gf_tbl ∧ Cond.selects yy_Mo_at.cls yy_Mo_at yy_Mo_at ∈ gf_tbl ∧ Cond.initialized yy_Mo_at.cls ∈ gf_tbl := ⟨gf_mem 894 rfl (by decide +kernel), gf_mem 892 (by decide +kernel) (by decide +kernel), gf_mem 893 (by decide +kernel) (by decide +kernel), gf_mem 79 (by decide +kernel) (by decide +kernel)⟩
set_option maxRecDepth 100000 in
theorem im_Mo_tear : Cond.code yy_Mo_tear cc_Mo_tear 2 (some .int) ∈ gf_tbl ∧ Cond.instanceMethod yy_Mo_tear ∈ gf_tbl ∧ Cond.selects yy_Mo_tear.cls yy_Mo_tear yy_Mo_tear ∈ gf_tbl ∧ Cond.initialized yy_Mo_tear.cls ∈ gf_tbl := ⟨gf_mem 898 rfl (by decide +kernel), gf_mem 896 (by decide +kernel) (by decide +kernel), gf_mem 897 (by decide +kernel) (by decide +kernel), gf_mem 79 (by decide +kernel) (by decide +kernel)⟩
set_option maxRecDepth 100000 in
theorem im_Mo_copy : Cond.code yy_Mo_copy cc_Mo_copy 10 (some .int) ∈ gf_tbl ∧ Cond.instanceMethod yy_Mo_copy ∈ gf_tbl ∧ Cond.selects yy_Mo_copy.cls yy_Mo_copy yy_Mo_copy ∈ gf_tbl ∧ Cond.initialized yy_Mo_copy.cls ∈ gf_tbl := ⟨gf_mem 902 rfl (by decide +kernel), gf_mem 900 (by decide +kernel) (by decide +kernel), gf_mem 901 (by decide +kernel) (by decide +kernel), gf_mem 79 (by decide +kernel) (by decide +kernel)⟩
set_option maxRecDepth 100000 in
theorem im_Mo_mean : Cond.code yy_Mo_mean cc_Mo_mean 5 (some .int) ∈ gf_tbl ∧ Cond.instanceMethod yy_Mo_mean ∈ gf_tbl ∧ Cond.selects yy_Mo_mean.cls yy_Mo_mean yy_Mo_mean ∈ gf_tbl ∧ Cond.initialized yy_Mo_mean.cls ∈ gf_tbl := ⟨gf_mem 906 rfl (by decide +kernel), gf_mem 904 (by decide +kernel) (by decide +kernel), gf_mem 905 (by decide +kernel) (by decide +kernel), gf_mem 79 (by decide +kernel) (by decide +kernel)⟩
set_option maxRecDepth 100000 in
theorem im_Mo_text : Cond.code yy_Mo_text cc_Mo_text 4 (some .int) ∈ gf_tbl ∧ Cond.instanceMethod yy_Mo_text ∈ gf_tbl ∧ Cond.selects yy_Mo_text.cls yy_Mo_text yy_Mo_text ∈ gf_tbl ∧ Cond.initialized yy_Mo_text.cls ∈ gf_tbl := ⟨gf_mem 910 rfl (by decide +kernel), gf_mem 908 (by decide +kernel) (by decide +kernel), gf_mem 909 (by decide +kernel) (by decide +kernel), gf_mem 79 (by decide +kernel) (by decide +kernel)⟩
set_option maxRecDepth 100000 in
theorem im_Mo_isText : gf_kN yy_Mo_isText cc_Mo_isText 1 (some .boolean) 1 := ⟨gf_mem 913 rfl (by decide +kernel), gf_mem 912 (by decide +kernel) (by decide +kernel), gf_mem 79 (by decide +kernel) (by decide +kernel), by decide +kernel, by decide +kernel, by decide +kernel⟩
set_option maxRecDepth 100000 in
theorem im_Mo_put : Cond.code yy_Mo_put cc_Mo_put 5 (some .int) ∈ gf_tbl ∧ Cond.instanceMethod yy_Mo_put ∈ gf_tbl ∧ Cond.selects yy_Mo_put.cls yy_Mo_put yy_Mo_put ∈ gf_tbl ∧ Cond.initialized yy_Mo_put.cls ∈ gf_tbl := ⟨gf_mem 918 rfl (by decide +kernel), gf_mem 916 (by decide +kernel) (by decide +kernel), gf_mem 917 (by decide +kernel) (by decide +kernel), gf_mem 79 (by decide +kernel) (by decide +kernel)⟩
set_option maxRecDepth 100000 in
theorem im_Mo_fault : Cond.code yy_Mo_fault cc_Mo_fault 2 (some .int) ∈ gf_tbl ∧ Cond.instanceMethod yy_Mo_fault ∈ gf_tbl ∧ Cond.selects yy_Mo_fault.cls yy_Mo_fault yy_Mo_fault ∈ gf_tbl ∧ Cond.initialized yy_Mo_fault.cls ∈ gf_tbl := ⟨gf_mem 922 rfl (by decide +kernel), gf_mem 920 (by decide +kernel) (by decide +kernel), gf_mem 921 (by decide +kernel) (by decide +kernel), gf_mem 79 (by decide +kernel) (by decide +kernel)⟩
set_option maxRecDepth 100000 in
theorem im_Mo_faultOf : Cond.code yy_Mo_faultOf cc_Mo_faultOf 3 (some .int) ∈ gf_tbl ∧ Cond.instanceMethod yy_Mo_faultOf ∈ gf_tbl ∧ Cond.selects yy_Mo_faultOf.cls yy_Mo_faultOf yy_Mo_faultOf ∈ gf_tbl ∧ Cond.initialized yy_Mo_faultOf.cls ∈ gf_tbl := ⟨gf_mem 926 rfl (by decide +kernel), gf_mem 925 (by decide +kernel) (by decide +kernel), gf_mem 37 (by decide +kernel) (by decide +kernel), gf_mem 79 (by decide +kernel) (by decide +kernel)⟩
set_option maxRecDepth 100000 in
theorem im_Mo_nextLetter : Cond.code yy_Mo_nextLetter cc_Mo_nextLetter 1 (some .int) ∈ gf_tbl ∧ Cond.instanceMethod yy_Mo_nextLetter ∈ gf_tbl ∧ Cond.selects yy_Mo_nextLetter.cls yy_Mo_nextLetter yy_Mo_nextLetter ∈ gf_tbl ∧ Cond.initialized yy_Mo_nextLetter.cls ∈ gf_tbl := ⟨gf_mem 930 rfl (by decide +kernel), gf_mem 929 (by decide +kernel) (by decide +kernel), gf_mem 38 (by decide +kernel) (by decide +kernel), gf_mem 79 (by decide +kernel) (by decide +kernel)⟩
set_option maxRecDepth 100000 in
theorem im_Mo_letter : Cond.code yy_Mo_letter cc_Mo_letter 1 (some .int) ∈ gf_tbl ∧ Cond.instanceMethod yy_Mo_letter ∈ gf_tbl ∧ Cond.selects yy_Mo_letter.cls yy_Mo_letter yy_Mo_letter ∈ gf_tbl ∧ Cond.initialized yy_Mo_letter.cls ∈ gf_tbl := ⟨gf_mem 934 rfl (by decide +kernel), gf_mem 933 (by decide +kernel) (by decide +kernel), gf_mem 39 (by decide +kernel) (by decide +kernel), gf_mem 79 (by decide +kernel) (by decide +kernel)⟩
set_option maxRecDepth 100000 in
theorem im_Mo_readGuard : Cond.code yy_Mo_readGuard cc_Mo_readGuard 3 (some .boolean) ∈ gf_tbl ∧ Cond.instanceMethod yy_Mo_readGuard ∈ gf_tbl ∧ Cond.selects yy_Mo_readGuard.cls yy_Mo_readGuard yy_Mo_readGuard ∈ gf_tbl ∧ Cond.initialized yy_Mo_readGuard.cls ∈ gf_tbl := ⟨gf_mem 938 rfl (by decide +kernel), gf_mem 937 (by decide +kernel) (by decide +kernel), gf_mem 40 (by decide +kernel) (by decide +kernel), gf_mem 79 (by decide +kernel) (by decide +kernel)⟩
set_option maxRecDepth 100000 in
theorem im_Mo_kindBy : gf_kN yy_Mo_kindBy cc_Mo_kindBy 1 (some .int) 1 := ⟨gf_mem 941 rfl (by decide +kernel), gf_mem 940 (by decide +kernel) (by decide +kernel), gf_mem 79 (by decide +kernel) (by decide +kernel), by decide +kernel, by decide +kernel, by decide +kernel⟩
set_option maxRecDepth 100000 in
theorem im_Mo_faults : Cond.code yy_Mo_faults cc_Mo_faults 1 (some .boolean) ∈ gf_tbl ∧ Cond.instanceMethod yy_Mo_faults ∈ gf_tbl ∧ Cond.selects yy_Mo_faults.cls yy_Mo_faults yy_Mo_faults ∈ gf_tbl ∧ Cond.initialized yy_Mo_faults.cls ∈ gf_tbl := ⟨gf_mem 945 rfl (by decide +kernel), gf_mem 944 (by decide +kernel) (by decide +kernel), gf_mem 41 (by decide +kernel) (by decide +kernel), gf_mem 79 (by decide +kernel) (by decide +kernel)⟩
set_option maxRecDepth 100000 in
theorem im_Mo_takesFigure : Cond.code yy_Mo_takesFigure cc_Mo_takesFigure 2 (some .boolean) ∈ gf_tbl ∧ Cond.instanceMethod yy_Mo_takesFigure ∈ gf_tbl ∧ Cond.selects yy_Mo_takesFigure.cls yy_Mo_takesFigure yy_Mo_takesFigure ∈ gf_tbl ∧ Cond.initialized yy_Mo_takesFigure.cls ∈ gf_tbl := ⟨gf_mem 949 rfl (by decide +kernel), gf_mem 948 (by decide +kernel) (by decide +kernel), gf_mem 42 (by decide +kernel) (by decide +kernel), gf_mem 79 (by decide +kernel) (by decide +kernel)⟩
set_option maxRecDepth 100000 in
theorem im_Mo_house : Cond.code yy_Mo_house cc_Mo_house 3 (some .int) ∈ gf_tbl ∧ Cond.instanceMethod yy_Mo_house ∈ gf_tbl ∧ Cond.selects yy_Mo_house.cls yy_Mo_house yy_Mo_house ∈ gf_tbl ∧ Cond.initialized yy_Mo_house.cls ∈ gf_tbl := ⟨gf_mem 955 rfl (by decide +kernel), gf_mem 953 (by decide +kernel) (by decide +kernel), gf_mem 954 (by decide +kernel) (by decide +kernel), gf_mem 79 (by decide +kernel) (by decide +kernel)⟩
set_option maxRecDepth 100000 in
theorem im_Mo_slips : Cond.code yy_Mo_slips cc_Mo_slips 2 (some .int) ∈ gf_tbl ∧ Cond.instanceMethod yy_Mo_slips ∈ gf_tbl ∧ Cond.selects yy_Mo_slips.cls yy_Mo_slips yy_Mo_slips ∈ gf_tbl ∧ Cond.initialized yy_Mo_slips.cls ∈ gf_tbl := ⟨gf_mem 959 rfl (by decide +kernel), gf_mem 957 (by decide +kernel) (by decide +kernel), gf_mem 958 (by decide +kernel) (by decide +kernel), gf_mem 79 (by decide +kernel) (by decide +kernel)⟩
set_option maxRecDepth 100000 in
theorem im_Mo_isGuard : Cond.code yy_Mo_isGuard cc_Mo_isGuard 2 (some .boolean) ∈ gf_tbl ∧ Cond.instanceMethod yy_Mo_isGuard ∈ gf_tbl ∧ Cond.selects yy_Mo_isGuard.cls yy_Mo_isGuard yy_Mo_isGuard ∈ gf_tbl ∧ Cond.initialized yy_Mo_isGuard.cls ∈ gf_tbl := ⟨gf_mem 963 rfl (by decide +kernel), gf_mem 962 (by decide +kernel) (by decide +kernel), gf_mem 43 (by decide +kernel) (by decide +kernel), gf_mem 79 (by decide +kernel) (by decide +kernel)⟩
set_option maxRecDepth 100000 in
theorem im_Mo_goSlips : Cond.code yy_Mo_goSlips cc_Mo_goSlips 6 none ∈ gf_tbl ∧ Cond.instanceMethod yy_Mo_goSlips ∈ gf_tbl ∧ Cond.selects yy_Mo_goSlips.cls yy_Mo_goSlips yy_Mo_goSlips ∈ gf_tbl ∧ Cond.initialized yy_Mo_goSlips.cls ∈ gf_tbl := ⟨gf_mem 967 rfl (by decide +kernel), gf_mem 966 (by decide +kernel) (by decide +kernel), gf_mem 44 (by decide +kernel) (by decide +kernel), gf_mem 79 (by decide +kernel) (by decide +kernel)⟩
set_option maxRecDepth 100000 in
theorem im_Mo_now : Cond.code yy_Mo_now cc_Mo_now 2 (some .int) ∈ gf_tbl ∧ Cond.instanceMethod yy_Mo_now ∈ gf_tbl ∧ Cond.selects yy_Mo_now.cls yy_Mo_now yy_Mo_now ∈ gf_tbl ∧ Cond.initialized yy_Mo_now.cls ∈ gf_tbl := ⟨gf_mem 971 rfl (by decide +kernel), gf_mem 970 (by decide +kernel) (by decide +kernel), gf_mem 45 (by decide +kernel) (by decide +kernel), gf_mem 79 (by decide +kernel) (by decide +kernel)⟩
set_option maxRecDepth 100000 in
theorem im_Mo_write : Cond.code yy_Mo_write cc_Mo_write 2 none ∈ gf_tbl ∧ Cond.instanceMethod yy_Mo_write ∈ gf_tbl ∧ Cond.selects yy_Mo_write.cls yy_Mo_write yy_Mo_write ∈ gf_tbl ∧ Cond.initialized yy_Mo_write.cls ∈ gf_tbl := ⟨gf_mem 975 rfl (by decide +kernel), gf_mem 974 (by decide +kernel) (by decide +kernel), gf_mem 46 (by decide +kernel) (by decide +kernel), gf_mem 79 (by decide +kernel) (by decide +kernel)⟩
set_option maxRecDepth 100000 in
theorem im_Mo_byGuard : Cond.code yy_Mo_byGuard cc_Mo_byGuard 4 (some .int) ∈ gf_tbl ∧ Cond.instanceMethod yy_Mo_byGuard ∈ gf_tbl ∧ Cond.selects yy_Mo_byGuard.cls yy_Mo_byGuard yy_Mo_byGuard ∈ gf_tbl ∧ Cond.initialized yy_Mo_byGuard.cls ∈ gf_tbl := ⟨gf_mem 979 rfl (by decide +kernel), gf_mem 978 (by decide +kernel) (by decide +kernel), gf_mem 47 (by decide +kernel) (by decide +kernel), gf_mem 79 (by decide +kernel) (by decide +kernel)⟩
set_option maxRecDepth 100000 in
theorem im_Mo_asKind : Cond.code yy_Mo_asKind cc_Mo_asKind 5 (some .int) ∈ gf_tbl ∧ Cond.instanceMethod yy_Mo_asKind ∈ gf_tbl ∧ Cond.selects yy_Mo_asKind.cls yy_Mo_asKind yy_Mo_asKind ∈ gf_tbl ∧ Cond.initialized yy_Mo_asKind.cls ∈ gf_tbl := ⟨gf_mem 983 rfl (by decide +kernel), gf_mem 982 (by decide +kernel) (by decide +kernel), gf_mem 48 (by decide +kernel) (by decide +kernel), gf_mem 79 (by decide +kernel) (by decide +kernel)⟩
set_option maxRecDepth 100000 in
theorem im_Mo_reckons : gf_kN yy_Mo_reckons cc_Mo_reckons 5 (some .int) 5 := ⟨gf_mem 986 rfl (by decide +kernel), gf_mem 985 (by decide +kernel) (by decide +kernel), gf_mem 79 (by decide +kernel) (by decide +kernel), by decide +kernel, by decide +kernel, by decide +kernel⟩
set_option maxRecDepth 100000 in
theorem im_Mo_sumOf : gf_kN yy_Mo_sumOf cc_Mo_sumOf 10 (some .int) 6 := ⟨gf_mem 989 rfl (by decide +kernel), gf_mem 988 (by decide +kernel) (by decide +kernel), gf_mem 79 (by decide +kernel) (by decide +kernel), by decide +kernel, by decide +kernel, by decide +kernel⟩
set_option maxRecDepth 100000 in
theorem im_Mo_chainOf : gf_kN yy_Mo_chainOf cc_Mo_chainOf 6 (some .int) 4 := ⟨gf_mem 992 rfl (by decide +kernel), gf_mem 991 (by decide +kernel) (by decide +kernel), gf_mem 79 (by decide +kernel) (by decide +kernel), by decide +kernel, by decide +kernel, by decide +kernel⟩
set_option maxRecDepth 100000 in
theorem im_Mo_unnoticed : Cond.code yy_Mo_unnoticed cc_Mo_unnoticed 4 none ∈ gf_tbl ∧ Cond.instanceMethod yy_Mo_unnoticed ∈ gf_tbl ∧ Cond.selects yy_Mo_unnoticed.cls yy_Mo_unnoticed yy_Mo_unnoticed ∈ gf_tbl ∧ Cond.initialized yy_Mo_unnoticed.cls ∈ gf_tbl := ⟨gf_mem 996 rfl (by decide +kernel), gf_mem 995 (by decide +kernel) (by decide +kernel), gf_mem 49 (by decide +kernel) (by decide +kernel), gf_mem 79 (by decide +kernel) (by decide +kernel)⟩
set_option maxRecDepth 100000 in
theorem im_Mo_tellUnseen : Cond.code yy_Mo_tellUnseen cc_Mo_tellUnseen 1 (some .int) ∈ gf_tbl ∧ Cond.instanceMethod yy_Mo_tellUnseen ∈ gf_tbl ∧ Cond.selects yy_Mo_tellUnseen.cls yy_Mo_tellUnseen yy_Mo_tellUnseen ∈ gf_tbl ∧ Cond.initialized yy_Mo_tellUnseen.cls ∈ gf_tbl := ⟨gf_mem 1000 rfl (by decide +kernel), gf_mem 999 (by decide +kernel) (by decide +kernel), gf_mem 50 (by decide +kernel) (by decide +kernel), gf_mem 79 (by decide +kernel) (by decide +kernel)⟩
set_option maxRecDepth 100000 in
theorem im_Mo_swaps : Cond.code yy_Mo_swaps cc_Mo_swaps 2 (some .int) ∈ gf_tbl ∧ Cond.instanceMethod yy_Mo_swaps ∈ gf_tbl ∧ Cond.selects yy_Mo_swaps.cls yy_Mo_swaps yy_Mo_swaps ∈ gf_tbl ∧ Cond.initialized yy_Mo_swaps.cls ∈ gf_tbl := ⟨gf_mem 1004 rfl (by decide +kernel), gf_mem 1002 (by decide +kernel) (by decide +kernel), gf_mem 1003 (by decide +kernel) (by decide +kernel), gf_mem 79 (by decide +kernel) (by decide +kernel)⟩
set_option maxRecDepth 100000 in
theorem im_Mo_goSwaps : Cond.code yy_Mo_goSwaps cc_Mo_goSwaps 5 none ∈ gf_tbl ∧ Cond.instanceMethod yy_Mo_goSwaps ∈ gf_tbl ∧ Cond.selects yy_Mo_goSwaps.cls yy_Mo_goSwaps yy_Mo_goSwaps ∈ gf_tbl ∧ Cond.initialized yy_Mo_goSwaps.cls ∈ gf_tbl := ⟨gf_mem 1008 rfl (by decide +kernel), gf_mem 1007 (by decide +kernel) (by decide +kernel), gf_mem 51 (by decide +kernel) (by decide +kernel), gf_mem 79 (by decide +kernel) (by decide +kernel)⟩
set_option maxRecDepth 100000 in
theorem im_Mo_exchange : Cond.code yy_Mo_exchange cc_Mo_exchange 4 none ∈ gf_tbl ∧ Cond.instanceMethod yy_Mo_exchange ∈ gf_tbl ∧ Cond.selects yy_Mo_exchange.cls yy_Mo_exchange yy_Mo_exchange ∈ gf_tbl ∧ Cond.initialized yy_Mo_exchange.cls ∈ gf_tbl := ⟨gf_mem 1012 rfl (by decide +kernel), gf_mem 1011 (by decide +kernel) (by decide +kernel), gf_mem 52 (by decide +kernel) (by decide +kernel), gf_mem 79 (by decide +kernel) (by decide +kernel)⟩
set_option maxRecDepth 100000 in
theorem im_Mo_jumps : Cond.code yy_Mo_jumps cc_Mo_jumps 2 (some .int) ∈ gf_tbl ∧ Cond.instanceMethod yy_Mo_jumps ∈ gf_tbl ∧ Cond.selects yy_Mo_jumps.cls yy_Mo_jumps yy_Mo_jumps ∈ gf_tbl ∧ Cond.initialized yy_Mo_jumps.cls ∈ gf_tbl := ⟨gf_mem 1016 rfl (by decide +kernel), gf_mem 1014 (by decide +kernel) (by decide +kernel), gf_mem 1015 (by decide +kernel) (by decide +kernel), gf_mem 79 (by decide +kernel) (by decide +kernel)⟩
set_option maxRecDepth 100000 in
theorem im_Mo_guard : Cond.code yy_Mo_guard cc_Mo_guard 3 (some .int) ∈ gf_tbl ∧ Cond.instanceMethod yy_Mo_guard ∈ gf_tbl ∧ Cond.selects yy_Mo_guard.cls yy_Mo_guard yy_Mo_guard ∈ gf_tbl ∧ Cond.initialized yy_Mo_guard.cls ∈ gf_tbl := ⟨gf_mem 1020 rfl (by decide +kernel), gf_mem 1018 (by decide +kernel) (by decide +kernel), gf_mem 1019 (by decide +kernel) (by decide +kernel), gf_mem 79 (by decide +kernel) (by decide +kernel)⟩
set_option maxRecDepth 100000 in
theorem im_Mo_toldOf : Cond.code yy_Mo_toldOf cc_Mo_toldOf 3 (some .int) ∈ gf_tbl ∧ Cond.instanceMethod yy_Mo_toldOf ∈ gf_tbl ∧ Cond.selects yy_Mo_toldOf.cls yy_Mo_toldOf yy_Mo_toldOf ∈ gf_tbl ∧ Cond.initialized yy_Mo_toldOf.cls ∈ gf_tbl := ⟨gf_mem 1025 rfl (by decide +kernel), gf_mem 1024 (by decide +kernel) (by decide +kernel), gf_mem 53 (by decide +kernel) (by decide +kernel), gf_mem 79 (by decide +kernel) (by decide +kernel)⟩
set_option maxRecDepth 100000 in
theorem im_Mo_slipsOf : Cond.code yy_Mo_slipsOf cc_Mo_slipsOf 2 (some .int) ∈ gf_tbl ∧ Cond.instanceMethod yy_Mo_slipsOf ∈ gf_tbl ∧ Cond.selects yy_Mo_slipsOf.cls yy_Mo_slipsOf yy_Mo_slipsOf ∈ gf_tbl ∧ Cond.initialized yy_Mo_slipsOf.cls ∈ gf_tbl := ⟨gf_mem 1029 rfl (by decide +kernel), gf_mem 1028 (by decide +kernel) (by decide +kernel), gf_mem 54 (by decide +kernel) (by decide +kernel), gf_mem 79 (by decide +kernel) (by decide +kernel)⟩
set_option maxRecDepth 100000 in
theorem im_Mo_mark : Cond.code yy_Mo_mark cc_Mo_mark 5 (some .int) ∈ gf_tbl ∧ Cond.instanceMethod yy_Mo_mark ∈ gf_tbl ∧ Cond.selects yy_Mo_mark.cls yy_Mo_mark yy_Mo_mark ∈ gf_tbl ∧ Cond.initialized yy_Mo_mark.cls ∈ gf_tbl := ⟨gf_mem 1033 rfl (by decide +kernel), gf_mem 1031 (by decide +kernel) (by decide +kernel), gf_mem 1032 (by decide +kernel) (by decide +kernel), gf_mem 79 (by decide +kernel) (by decide +kernel)⟩
set_option maxRecDepth 100000 in
theorem im_Mo_isOf : gf_kN yy_Mo_isOf cc_Mo_isOf 2 (some .boolean) 2 := ⟨gf_mem 1036 rfl (by decide +kernel), gf_mem 1035 (by decide +kernel) (by decide +kernel), gf_mem 79 (by decide +kernel) (by decide +kernel), by decide +kernel, by decide +kernel, by decide +kernel⟩
set_option maxRecDepth 100000 in
theorem im_Mo_figure : Cond.code yy_Mo_figure cc_Mo_figure 2 (some .int) ∈ gf_tbl ∧ Cond.instanceMethod yy_Mo_figure ∈ gf_tbl ∧ Cond.selects yy_Mo_figure.cls yy_Mo_figure yy_Mo_figure ∈ gf_tbl ∧ Cond.initialized yy_Mo_figure.cls ∈ gf_tbl := ⟨gf_mem 1040 rfl (by decide +kernel), gf_mem 1038 (by decide +kernel) (by decide +kernel), gf_mem 1039 (by decide +kernel) (by decide +kernel), gf_mem 79 (by decide +kernel) (by decide +kernel)⟩
set_option maxRecDepth 100000 in
theorem im_Mo_add : Cond.code yy_Mo_add cc_Mo_add 2 (some .int) ∈ gf_tbl ∧ Cond.instanceMethod yy_Mo_add ∈ gf_tbl ∧ Cond.selects yy_Mo_add.cls yy_Mo_add yy_Mo_add ∈ gf_tbl ∧ Cond.initialized yy_Mo_add.cls ∈ gf_tbl := ⟨gf_mem 1044 rfl (by decide +kernel), gf_mem 1042 (by decide +kernel) (by decide +kernel), gf_mem 1043 (by decide +kernel) (by decide +kernel), gf_mem 79 (by decide +kernel) (by decide +kernel)⟩
set_option maxRecDepth 100000 in
theorem im_Mo_isFigure : gf_kN yy_Mo_isFigure cc_Mo_isFigure 1 (some .boolean) 1 := ⟨gf_mem 1047 rfl (by decide +kernel), gf_mem 1046 (by decide +kernel) (by decide +kernel), gf_mem 79 (by decide +kernel) (by decide +kernel), by decide +kernel, by decide +kernel, by decide +kernel⟩
set_option maxRecDepth 100000 in
theorem im_Mo_note : Cond.code yy_Mo_note cc_Mo_note 3 none ∈ gf_tbl ∧ Cond.instanceMethod yy_Mo_note ∈ gf_tbl ∧ Cond.selects yy_Mo_note.cls yy_Mo_note yy_Mo_note ∈ gf_tbl ∧ Cond.initialized yy_Mo_note.cls ∈ gf_tbl := ⟨gf_mem 1052 rfl (by decide +kernel), gf_mem 1051 (by decide +kernel) (by decide +kernel), gf_mem 55 (by decide +kernel) (by decide +kernel), gf_mem 79 (by decide +kernel) (by decide +kernel)⟩
set_option maxRecDepth 100000 in
theorem im_Mo_append : Cond.code yy_Mo_append cc_Mo_append 2 none ∈ gf_tbl ∧ Cond.instanceMethod yy_Mo_append ∈ gf_tbl ∧ Cond.selects yy_Mo_append.cls yy_Mo_append yy_Mo_append ∈ gf_tbl ∧ Cond.initialized yy_Mo_append.cls ∈ gf_tbl := ⟨gf_mem 1056 rfl (by decide +kernel), gf_mem 1055 (by decide +kernel) (by decide +kernel), gf_mem 56 (by decide +kernel) (by decide +kernel), gf_mem 79 (by decide +kernel) (by decide +kernel)⟩
set_option maxRecDepth 100000 in
theorem im_Mo_drop : Cond.code yy_Mo_drop cc_Mo_drop 2 (some .int) ∈ gf_tbl ∧ Cond.instanceMethod yy_Mo_drop ∈ gf_tbl ∧ Cond.selects yy_Mo_drop.cls yy_Mo_drop yy_Mo_drop ∈ gf_tbl ∧ Cond.initialized yy_Mo_drop.cls ∈ gf_tbl := ⟨gf_mem 1060 rfl (by decide +kernel), gf_mem 1058 (by decide +kernel) (by decide +kernel), gf_mem 1059 (by decide +kernel) (by decide +kernel), gf_mem 79 (by decide +kernel) (by decide +kernel)⟩
set_option maxRecDepth 100000 in
theorem im_Mo_takeOff : Cond.code yy_Mo_takeOff cc_Mo_takeOff 1 none ∈ gf_tbl ∧ Cond.instanceMethod yy_Mo_takeOff ∈ gf_tbl ∧ Cond.selects yy_Mo_takeOff.cls yy_Mo_takeOff yy_Mo_takeOff ∈ gf_tbl ∧ Cond.initialized yy_Mo_takeOff.cls ∈ gf_tbl := ⟨gf_mem 1064 rfl (by decide +kernel), gf_mem 1063 (by decide +kernel) (by decide +kernel), gf_mem 57 (by decide +kernel) (by decide +kernel), gf_mem 79 (by decide +kernel) (by decide +kernel)⟩
set_option maxRecDepth 100000 in
theorem im_Mo_change : Cond.code yy_Mo_change cc_Mo_change 4 (some .int) ∈ gf_tbl ∧ Cond.instanceMethod yy_Mo_change ∈ gf_tbl ∧ Cond.selects yy_Mo_change.cls yy_Mo_change yy_Mo_change ∈ gf_tbl ∧ Cond.initialized yy_Mo_change.cls ∈ gf_tbl := ⟨gf_mem 1068 rfl (by decide +kernel), gf_mem 1066 (by decide +kernel) (by decide +kernel), gf_mem 1067 (by decide +kernel) (by decide +kernel), gf_mem 79 (by decide +kernel) (by decide +kernel)⟩
set_option maxRecDepth 100000 in
theorem im_Mo_swap : Cond.code yy_Mo_swap cc_Mo_swap 3 (some .int) ∈ gf_tbl ∧ Cond.instanceMethod yy_Mo_swap ∈ gf_tbl ∧ Cond.selects yy_Mo_swap.cls yy_Mo_swap yy_Mo_swap ∈ gf_tbl ∧ Cond.initialized yy_Mo_swap.cls ∈ gf_tbl := ⟨gf_mem 1072 rfl (by decide +kernel), gf_mem 1070 (by decide +kernel) (by decide +kernel), gf_mem 1071 (by decide +kernel) (by decide +kernel), gf_mem 79 (by decide +kernel) (by decide +kernel)⟩
set_option maxRecDepth 100000 in
theorem im_Mo_undo : Cond.code yy_Mo_undo cc_Mo_undo 5 (some .int) ∈ gf_tbl ∧ Cond.instanceMethod yy_Mo_undo ∈ gf_tbl ∧ Cond.selects yy_Mo_undo.cls yy_Mo_undo yy_Mo_undo ∈ gf_tbl ∧ Cond.initialized yy_Mo_undo.cls ∈ gf_tbl := ⟨gf_mem 1076 rfl (by decide +kernel), gf_mem 1074 (by decide +kernel) (by decide +kernel), gf_mem 1075 (by decide +kernel) (by decide +kernel), gf_mem 79 (by decide +kernel) (by decide +kernel)⟩
set_option maxRecDepth 100000 in
theorem im_Mo_keep : Cond.code yy_Mo_keep cc_Mo_keep 3 (some .int) ∈ gf_tbl ∧ Cond.instanceMethod yy_Mo_keep ∈ gf_tbl ∧ Cond.selects yy_Mo_keep.cls yy_Mo_keep yy_Mo_keep ∈ gf_tbl ∧ Cond.initialized yy_Mo_keep.cls ∈ gf_tbl := ⟨gf_mem 1080 rfl (by decide +kernel), gf_mem 1078 (by decide +kernel) (by decide +kernel), gf_mem 1079 (by decide +kernel) (by decide +kernel), gf_mem 79 (by decide +kernel) (by decide +kernel)⟩
set_option maxRecDepth 100000 in
theorem im_Mo_on : Cond.code yy_Mo_on cc_Mo_on 3 (some .int) ∈ gf_tbl ∧ Cond.instanceMethod yy_Mo_on ∈ gf_tbl ∧ Cond.selects yy_Mo_on.cls yy_Mo_on yy_Mo_on ∈ gf_tbl ∧ Cond.initialized yy_Mo_on.cls ∈ gf_tbl := ⟨gf_mem 1085 rfl (by decide +kernel), gf_mem 1083 (by decide +kernel) (by decide +kernel), gf_mem 1084 (by decide +kernel) (by decide +kernel), gf_mem 79 (by decide +kernel) (by decide +kernel)⟩
set_option maxRecDepth 100000 in
theorem im_Mo_best : Cond.code yy_Mo_best cc_Mo_best 5 (some .int) ∈ gf_tbl ∧ Cond.instanceMethod yy_Mo_best ∈ gf_tbl ∧ Cond.selects yy_Mo_best.cls yy_Mo_best yy_Mo_best ∈ gf_tbl ∧ Cond.initialized yy_Mo_best.cls ∈ gf_tbl := ⟨gf_mem 1089 rfl (by decide +kernel), gf_mem 1087 (by decide +kernel) (by decide +kernel), gf_mem 1088 (by decide +kernel) (by decide +kernel), gf_mem 79 (by decide +kernel) (by decide +kernel)⟩
set_option maxRecDepth 100000 in
theorem im_Mo_allUnseen : Cond.code yy_Mo_allUnseen cc_Mo_allUnseen 3 (some .int) ∈ gf_tbl ∧ Cond.instanceMethod yy_Mo_allUnseen ∈ gf_tbl ∧ Cond.selects yy_Mo_allUnseen.cls yy_Mo_allUnseen yy_Mo_allUnseen ∈ gf_tbl ∧ Cond.initialized yy_Mo_allUnseen.cls ∈ gf_tbl := ⟨gf_mem 1093 rfl (by decide +kernel), gf_mem 1092 (by decide +kernel) (by decide +kernel), gf_mem 58 (by decide +kernel) (by decide +kernel), gf_mem 79 (by decide +kernel) (by decide +kernel)⟩
set_option maxRecDepth 100000 in
theorem im_Mo_cover : Cond.code yy_Mo_cover cc_Mo_cover 3 (some .int) ∈ gf_tbl ∧ Cond.instanceMethod yy_Mo_cover ∈ gf_tbl ∧ Cond.selects yy_Mo_cover.cls yy_Mo_cover yy_Mo_cover ∈ gf_tbl ∧ Cond.initialized yy_Mo_cover.cls ∈ gf_tbl := ⟨gf_mem 1097 rfl (by decide +kernel), gf_mem 1095 (by decide +kernel) (by decide +kernel), gf_mem 1096 (by decide +kernel) (by decide +kernel), gf_mem 79 (by decide +kernel) (by decide +kernel)⟩
set_option maxRecDepth 100000 in
theorem im_Mo_seeAll : Cond.code yy_Mo_seeAll cc_Mo_seeAll 4 none ∈ gf_tbl ∧ Cond.instanceMethod yy_Mo_seeAll ∈ gf_tbl ∧ Cond.selects yy_Mo_seeAll.cls yy_Mo_seeAll yy_Mo_seeAll ∈ gf_tbl ∧ Cond.initialized yy_Mo_seeAll.cls ∈ gf_tbl := ⟨gf_mem 1101 rfl (by decide +kernel), gf_mem 1100 (by decide +kernel) (by decide +kernel), gf_mem 59 (by decide +kernel) (by decide +kernel), gf_mem 79 (by decide +kernel) (by decide +kernel)⟩
set_option maxRecDepth 100000 in
theorem im_Mo_seeThing : Cond.code yy_Mo_seeThing cc_Mo_seeThing 3 none ∈ gf_tbl ∧ Cond.instanceMethod yy_Mo_seeThing ∈ gf_tbl ∧ Cond.selects yy_Mo_seeThing.cls yy_Mo_seeThing yy_Mo_seeThing ∈ gf_tbl ∧ Cond.initialized yy_Mo_seeThing.cls ∈ gf_tbl := ⟨gf_mem 1105 rfl (by decide +kernel), gf_mem 1104 (by decide +kernel) (by decide +kernel), gf_mem 60 (by decide +kernel) (by decide +kernel), gf_mem 79 (by decide +kernel) (by decide +kernel)⟩
set_option maxRecDepth 100000 in
theorem im_Mo_ones : gf_kN yy_Mo_ones cc_Mo_ones 3 (some .int) 1 := ⟨gf_mem 1108 rfl (by decide +kernel), gf_mem 1107 (by decide +kernel) (by decide +kernel), gf_mem 79 (by decide +kernel) (by decide +kernel), by decide +kernel, by decide +kernel, by decide +kernel⟩
set_option maxRecDepth 100000 in
theorem im_Mo_isCover : Cond.code yy_Mo_isCover cc_Mo_isCover 3 (some .boolean) ∈ gf_tbl ∧ Cond.instanceMethod yy_Mo_isCover ∈ gf_tbl ∧ Cond.selects yy_Mo_isCover.cls yy_Mo_isCover yy_Mo_isCover ∈ gf_tbl ∧ Cond.initialized yy_Mo_isCover.cls ∈ gf_tbl := ⟨gf_mem 1112 rfl (by decide +kernel), gf_mem 1111 (by decide +kernel) (by decide +kernel), gf_mem 61 (by decide +kernel) (by decide +kernel), gf_mem 79 (by decide +kernel) (by decide +kernel)⟩
set_option maxRecDepth 100000 in
theorem im_Mo_next : Cond.code yy_Mo_next cc_Mo_next 5 (some .int) ∈ gf_tbl ∧ Cond.instanceMethod yy_Mo_next ∈ gf_tbl ∧ Cond.selects yy_Mo_next.cls yy_Mo_next yy_Mo_next ∈ gf_tbl ∧ Cond.initialized yy_Mo_next.cls ∈ gf_tbl := ⟨gf_mem 1116 rfl (by decide +kernel), gf_mem 1114 (by decide +kernel) (by decide +kernel), gf_mem 1115 (by decide +kernel) (by decide +kernel), gf_mem 79 (by decide +kernel) (by decide +kernel)⟩
set_option maxRecDepth 100000 in
theorem im_Mo_near : Cond.code yy_Mo_near cc_Mo_near 5 (some .int) ∈ gf_tbl ∧ Cond.instanceMethod yy_Mo_near ∈ gf_tbl ∧ Cond.selects yy_Mo_near.cls yy_Mo_near yy_Mo_near ∈ gf_tbl ∧ Cond.initialized yy_Mo_near.cls ∈ gf_tbl := ⟨gf_mem 1121 rfl (by decide +kernel), gf_mem 1119 (by decide +kernel) (by decide +kernel), gf_mem 1120 (by decide +kernel) (by decide +kernel), gf_mem 79 (by decide +kernel) (by decide +kernel)⟩
set_option maxRecDepth 100000 in
theorem im_Mo_asNumber : gf_kN yy_Mo_asNumber cc_Mo_asNumber 4 (some .int) 2 := ⟨gf_mem 1124 rfl (by decide +kernel), gf_mem 1123 (by decide +kernel) (by decide +kernel), gf_mem 79 (by decide +kernel) (by decide +kernel), by decide +kernel, by decide +kernel, by decide +kernel⟩
set_option maxRecDepth 100000 in
theorem im_Mo_leastWith : Cond.code yy_Mo_leastWith cc_Mo_leastWith 12 (some .int) ∈ gf_tbl ∧ Cond.instanceMethod yy_Mo_leastWith ∈ gf_tbl ∧ Cond.selects yy_Mo_leastWith.cls yy_Mo_leastWith yy_Mo_leastWith ∈ gf_tbl ∧ Cond.initialized yy_Mo_leastWith.cls ∈ gf_tbl := ⟨gf_mem 1128 rfl (by decide +kernel), gf_mem 1127 (by decide +kernel) (by decide +kernel), gf_mem 62 (by decide +kernel) (by decide +kernel), gf_mem 79 (by decide +kernel) (by decide +kernel)⟩
set_option maxRecDepth 100000 in
theorem im_Mo_fills : Cond.code yy_Mo_fills cc_Mo_fills 12 (some .int) ∈ gf_tbl ∧ Cond.instanceMethod yy_Mo_fills ∈ gf_tbl ∧ Cond.selects yy_Mo_fills.cls yy_Mo_fills yy_Mo_fills ∈ gf_tbl ∧ Cond.initialized yy_Mo_fills.cls ∈ gf_tbl := ⟨gf_mem 1132 rfl (by decide +kernel), gf_mem 1130 (by decide +kernel) (by decide +kernel), gf_mem 1131 (by decide +kernel) (by decide +kernel), gf_mem 79 (by decide +kernel) (by decide +kernel)⟩
set_option maxRecDepth 100000 in
theorem im_Mo_kinds : Cond.code yy_Mo_kinds cc_Mo_kinds 4 (some .int) ∈ gf_tbl ∧ Cond.instanceMethod yy_Mo_kinds ∈ gf_tbl ∧ Cond.selects yy_Mo_kinds.cls yy_Mo_kinds yy_Mo_kinds ∈ gf_tbl ∧ Cond.initialized yy_Mo_kinds.cls ∈ gf_tbl := ⟨gf_mem 1138 rfl (by decide +kernel), gf_mem 1136 (by decide +kernel) (by decide +kernel), gf_mem 1137 (by decide +kernel) (by decide +kernel), gf_mem 79 (by decide +kernel) (by decide +kernel)⟩
set_option maxRecDepth 100000 in
theorem im_Mo_lacksTold : Cond.code yy_Mo_lacksTold cc_Mo_lacksTold 4 (some .int) ∈ gf_tbl ∧ Cond.instanceMethod yy_Mo_lacksTold ∈ gf_tbl ∧ Cond.selects yy_Mo_lacksTold.cls yy_Mo_lacksTold yy_Mo_lacksTold ∈ gf_tbl ∧ Cond.initialized yy_Mo_lacksTold.cls ∈ gf_tbl := ⟨gf_mem 1142 rfl (by decide +kernel), gf_mem 1141 (by decide +kernel) (by decide +kernel), gf_mem 63 (by decide +kernel) (by decide +kernel), gf_mem 79 (by decide +kernel) (by decide +kernel)⟩
set_option maxRecDepth 100000 in
theorem im_Mo_kindSet : Cond.code yy_Mo_kindSet cc_Mo_kindSet 6 (some .int) ∈ gf_tbl ∧ Cond.instanceMethod yy_Mo_kindSet ∈ gf_tbl ∧ Cond.selects yy_Mo_kindSet.cls yy_Mo_kindSet yy_Mo_kindSet ∈ gf_tbl ∧ Cond.initialized yy_Mo_kindSet.cls ∈ gf_tbl := ⟨gf_mem 1146 rfl (by decide +kernel), gf_mem 1145 (by decide +kernel) (by decide +kernel), gf_mem 64 (by decide +kernel) (by decide +kernel), gf_mem 79 (by decide +kernel) (by decide +kernel)⟩
set_option maxRecDepth 100000 in
theorem im_Mo_firsts : Cond.code yy_Mo_firsts cc_Mo_firsts 7 (some .int) ∈ gf_tbl ∧ Cond.instanceMethod yy_Mo_firsts ∈ gf_tbl ∧ Cond.selects yy_Mo_firsts.cls yy_Mo_firsts yy_Mo_firsts ∈ gf_tbl ∧ Cond.initialized yy_Mo_firsts.cls ∈ gf_tbl := ⟨gf_mem 1150 rfl (by decide +kernel), gf_mem 1148 (by decide +kernel) (by decide +kernel), gf_mem 1149 (by decide +kernel) (by decide +kernel), gf_mem 79 (by decide +kernel) (by decide +kernel)⟩
set_option maxRecDepth 100000 in
theorem im_Mo_test : Cond.code yy_Mo_test cc_Mo_test 9 (some .int) ∈ gf_tbl ∧ Cond.instanceMethod yy_Mo_test ∈ gf_tbl ∧ Cond.selects yy_Mo_test.cls yy_Mo_test yy_Mo_test ∈ gf_tbl ∧ Cond.initialized yy_Mo_test.cls ∈ gf_tbl := ⟨gf_mem 1154 rfl (by decide +kernel), gf_mem 1152 (by decide +kernel) (by decide +kernel), gf_mem 1153 (by decide +kernel) (by decide +kernel), gf_mem 79 (by decide +kernel) (by decide +kernel)⟩
set_option maxRecDepth 100000 in
theorem im_Mo_partBy : Cond.code yy_Mo_partBy cc_Mo_partBy 8 (some .int) ∈ gf_tbl ∧ Cond.instanceMethod yy_Mo_partBy ∈ gf_tbl ∧ Cond.selects yy_Mo_partBy.cls yy_Mo_partBy yy_Mo_partBy ∈ gf_tbl ∧ Cond.initialized yy_Mo_partBy.cls ∈ gf_tbl := ⟨gf_mem 1158 rfl (by decide +kernel), gf_mem 1157 (by decide +kernel) (by decide +kernel), gf_mem 65 (by decide +kernel) (by decide +kernel), gf_mem 79 (by decide +kernel) (by decide +kernel)⟩
set_option maxRecDepth 100000 in
theorem im_Mo_duel : Cond.code yy_Mo_duel cc_Mo_duel 11 (some .int) ∈ gf_tbl ∧ Cond.instanceMethod yy_Mo_duel ∈ gf_tbl ∧ Cond.selects yy_Mo_duel.cls yy_Mo_duel yy_Mo_duel ∈ gf_tbl ∧ Cond.initialized yy_Mo_duel.cls ∈ gf_tbl := ⟨gf_mem 1162 rfl (by decide +kernel), gf_mem 1160 (by decide +kernel) (by decide +kernel), gf_mem 1161 (by decide +kernel) (by decide +kernel), gf_mem 79 (by decide +kernel) (by decide +kernel)⟩
set_option maxRecDepth 100000 in
theorem im_Mo_odds : Cond.code yy_Mo_odds cc_Mo_odds 3 (some .int) ∈ gf_tbl ∧ Cond.instanceMethod yy_Mo_odds ∈ gf_tbl ∧ Cond.selects yy_Mo_odds.cls yy_Mo_odds yy_Mo_odds ∈ gf_tbl ∧ Cond.initialized yy_Mo_odds.cls ∈ gf_tbl := ⟨gf_mem 1166 rfl (by decide +kernel), gf_mem 1164 (by decide +kernel) (by decide +kernel), gf_mem 1165 (by decide +kernel) (by decide +kernel), gf_mem 79 (by decide +kernel) (by decide +kernel)⟩
set_option maxRecDepth 100000 in
theorem im_Mo_weigh : Cond.code yy_Mo_weigh cc_Mo_weigh 14 (some .int) ∈ gf_tbl ∧ Cond.instanceMethod yy_Mo_weigh ∈ gf_tbl ∧ Cond.selects yy_Mo_weigh.cls yy_Mo_weigh yy_Mo_weigh ∈ gf_tbl ∧ Cond.initialized yy_Mo_weigh.cls ∈ gf_tbl := ⟨gf_mem 1170 rfl (by decide +kernel), gf_mem 1169 (by decide +kernel) (by decide +kernel), gf_mem 66 (by decide +kernel) (by decide +kernel), gf_mem 79 (by decide +kernel) (by decide +kernel)⟩
set_option maxRecDepth 100000 in
theorem im_Mo_tellShare : Cond.code yy_Mo_tellShare cc_Mo_tellShare 11 (some .int) ∈ gf_tbl ∧ Cond.instanceMethod yy_Mo_tellShare ∈ gf_tbl ∧ Cond.selects yy_Mo_tellShare.cls yy_Mo_tellShare yy_Mo_tellShare ∈ gf_tbl ∧ Cond.initialized yy_Mo_tellShare.cls ∈ gf_tbl := ⟨gf_mem 1175 rfl (by decide +kernel), gf_mem 1174 (by decide +kernel) (by decide +kernel), gf_mem 67 (by decide +kernel) (by decide +kernel), gf_mem 79 (by decide +kernel) (by decide +kernel)⟩
set_option maxRecDepth 100000 in
theorem im_Mo_mid : Cond.code yy_Mo_mid cc_Mo_mid 3 (some .int) ∈ gf_tbl ∧ Cond.instanceMethod yy_Mo_mid ∈ gf_tbl ∧ Cond.selects yy_Mo_mid.cls yy_Mo_mid yy_Mo_mid ∈ gf_tbl ∧ Cond.initialized yy_Mo_mid.cls ∈ gf_tbl := ⟨gf_mem 1179 rfl (by decide +kernel), gf_mem 1177 (by decide +kernel) (by decide +kernel), gf_mem 1178 (by decide +kernel) (by decide +kernel), gf_mem 79 (by decide +kernel) (by decide +kernel)⟩
set_option maxRecDepth 100000 in
theorem im_Mo_lots : Cond.code yy_Mo_lots cc_Mo_lots 9 (some .int) ∈ gf_tbl ∧ Cond.instanceMethod yy_Mo_lots ∈ gf_tbl ∧ Cond.selects yy_Mo_lots.cls yy_Mo_lots yy_Mo_lots ∈ gf_tbl ∧ Cond.initialized yy_Mo_lots.cls ∈ gf_tbl := ⟨gf_mem 1183 rfl (by decide +kernel), gf_mem 1181 (by decide +kernel) (by decide +kernel), gf_mem 1182 (by decide +kernel) (by decide +kernel), gf_mem 79 (by decide +kernel) (by decide +kernel)⟩
set_option maxRecDepth 100000 in
theorem im_Mo_asked : Cond.code yy_Mo_asked cc_Mo_asked 1 (some .int) ∈ gf_tbl ∧ Cond.instanceMethod yy_Mo_asked ∈ gf_tbl ∧ Cond.selects yy_Mo_asked.cls yy_Mo_asked yy_Mo_asked ∈ gf_tbl ∧ Cond.initialized yy_Mo_asked.cls ∈ gf_tbl := ⟨gf_mem 1192 rfl (by decide +kernel), gf_mem 1190 (by decide +kernel) (by decide +kernel), gf_mem 1191 (by decide +kernel) (by decide +kernel), gf_mem 79 (by decide +kernel) (by decide +kernel)⟩
set_option maxRecDepth 100000 in
theorem im_Mo_upper : Cond.code yy_Mo_upper cc_Mo_upper 1 (some .long) ∈ gf_tbl ∧ Cond.instanceMethod yy_Mo_upper ∈ gf_tbl ∧ Cond.selects yy_Mo_upper.cls yy_Mo_upper yy_Mo_upper ∈ gf_tbl ∧ Cond.initialized yy_Mo_upper.cls ∈ gf_tbl := ⟨gf_mem 1196 rfl (by decide +kernel), gf_mem 1194 (by decide +kernel) (by decide +kernel), gf_mem 1195 (by decide +kernel) (by decide +kernel), gf_mem 79 (by decide +kernel) (by decide +kernel)⟩
set_option maxRecDepth 100000 in
theorem im_Mo_lower : Cond.code yy_Mo_lower cc_Mo_lower 1 (some .long) ∈ gf_tbl ∧ Cond.instanceMethod yy_Mo_lower ∈ gf_tbl ∧ Cond.selects yy_Mo_lower.cls yy_Mo_lower yy_Mo_lower ∈ gf_tbl ∧ Cond.initialized yy_Mo_lower.cls ∈ gf_tbl := ⟨gf_mem 1200 rfl (by decide +kernel), gf_mem 1198 (by decide +kernel) (by decide +kernel), gf_mem 1199 (by decide +kernel) (by decide +kernel), gf_mem 79 (by decide +kernel) (by decide +kernel)⟩
set_option maxRecDepth 100000 in
theorem im_Mo_count : Cond.code yy_Mo_count cc_Mo_count 2 (some .int) ∈ gf_tbl ∧ Cond.instanceMethod yy_Mo_count ∈ gf_tbl ∧ Cond.selects yy_Mo_count.cls yy_Mo_count yy_Mo_count ∈ gf_tbl ∧ Cond.initialized yy_Mo_count.cls ∈ gf_tbl := ⟨gf_mem 1204 rfl (by decide +kernel), gf_mem 1202 (by decide +kernel) (by decide +kernel), gf_mem 1203 (by decide +kernel) (by decide +kernel), gf_mem 79 (by decide +kernel) (by decide +kernel)⟩
set_option maxRecDepth 100000 in
theorem im_Mo_allReckon : Cond.code yy_Mo_allReckon cc_Mo_allReckon 3 (some .int) ∈ gf_tbl ∧ Cond.instanceMethod yy_Mo_allReckon ∈ gf_tbl ∧ Cond.selects yy_Mo_allReckon.cls yy_Mo_allReckon yy_Mo_allReckon ∈ gf_tbl ∧ Cond.initialized yy_Mo_allReckon.cls ∈ gf_tbl := ⟨gf_mem 1208 rfl (by decide +kernel), gf_mem 1207 (by decide +kernel) (by decide +kernel), gf_mem 68 (by decide +kernel) (by decide +kernel), gf_mem 79 (by decide +kernel) (by decide +kernel)⟩
set_option maxRecDepth 100000 in
theorem im_Mo_allNotice : Cond.code yy_Mo_allNotice cc_Mo_allNotice 3 (some .int) ∈ gf_tbl ∧ Cond.instanceMethod yy_Mo_allNotice ∈ gf_tbl ∧ Cond.selects yy_Mo_allNotice.cls yy_Mo_allNotice yy_Mo_allNotice ∈ gf_tbl ∧ Cond.initialized yy_Mo_allNotice.cls ∈ gf_tbl := ⟨gf_mem 1212 rfl (by decide +kernel), gf_mem 1211 (by decide +kernel) (by decide +kernel), gf_mem 69 (by decide +kernel) (by decide +kernel), gf_mem 79 (by decide +kernel) (by decide +kernel)⟩
set_option maxRecDepth 100000 in
theorem im_Mo_thereOf : gf_kN yy_Mo_thereOf cc_Mo_thereOf 3 (some .int) 1 := ⟨gf_mem 1215 rfl (by decide +kernel), gf_mem 1214 (by decide +kernel) (by decide +kernel), gf_mem 79 (by decide +kernel) (by decide +kernel), by decide +kernel, by decide +kernel, by decide +kernel⟩
set_option maxRecDepth 100000 in
theorem im_Mo_ofKind : Cond.code yy_Mo_ofKind cc_Mo_ofKind 4 (some .int) ∈ gf_tbl ∧ Cond.instanceMethod yy_Mo_ofKind ∈ gf_tbl ∧ Cond.selects yy_Mo_ofKind.cls yy_Mo_ofKind yy_Mo_ofKind ∈ gf_tbl ∧ Cond.initialized yy_Mo_ofKind.cls ∈ gf_tbl := ⟨gf_mem 1219 rfl (by decide +kernel), gf_mem 1218 (by decide +kernel) (by decide +kernel), gf_mem 70 (by decide +kernel) (by decide +kernel), gf_mem 79 (by decide +kernel) (by decide +kernel)⟩
set_option maxRecDepth 100000 in
theorem im_Mo_finding : Cond.code yy_Mo_finding cc_Mo_finding 1 (some .int) ∈ gf_tbl ∧ Cond.instanceMethod yy_Mo_finding ∈ gf_tbl ∧ Cond.selects yy_Mo_finding.cls yy_Mo_finding yy_Mo_finding ∈ gf_tbl ∧ Cond.initialized yy_Mo_finding.cls ∈ gf_tbl := ⟨gf_mem 1223 rfl (by decide +kernel), gf_mem 1221 (by decide +kernel) (by decide +kernel), gf_mem 1222 (by decide +kernel) (by decide +kernel), gf_mem 79 (by decide +kernel) (by decide +kernel)⟩
set_option maxRecDepth 100000 in
theorem im_Mo_findings : Cond.code yy_Mo_findings cc_Mo_findings 2 (some .int) ∈ gf_tbl ∧ Cond.instanceMethod yy_Mo_findings ∈ gf_tbl ∧ Cond.selects yy_Mo_findings.cls yy_Mo_findings yy_Mo_findings ∈ gf_tbl ∧ Cond.initialized yy_Mo_findings.cls ∈ gf_tbl := ⟨gf_mem 1227 rfl (by decide +kernel), gf_mem 1225 (by decide +kernel) (by decide +kernel), gf_mem 1226 (by decide +kernel) (by decide +kernel), gf_mem 79 (by decide +kernel) (by decide +kernel)⟩
set_option maxRecDepth 100000 in
theorem im_Mo_digest : Cond.code yy_Mo_digest cc_Mo_digest 5 (some .long) ∈ gf_tbl ∧ Cond.instanceMethod yy_Mo_digest ∈ gf_tbl ∧ Cond.selects yy_Mo_digest.cls yy_Mo_digest yy_Mo_digest ∈ gf_tbl ∧ Cond.initialized yy_Mo_digest.cls ∈ gf_tbl := ⟨gf_mem 1231 rfl (by decide +kernel), gf_mem 1229 (by decide +kernel) (by decide +kernel), gf_mem 1230 (by decide +kernel) (by decide +kernel), gf_mem 79 (by decide +kernel) (by decide +kernel)⟩
theorem wk_La_9 : gf_kI "GuardFiguresLaw" 9 yy_Fi_init cc_Fi_init 2 0 := ⟨im_Fi_init.1, gf_mem 85 (by decide +kernel) (by decide +kernel), im_Fi_init.2.1, im_Fi_init.2.2, rfl, by decide +kernel, by decide +kernel, by decide +kernel⟩
theorem wk_Fi_15 : gf_kI "GuardFigures" 15 yy_Ro_init cc_Ro_init 2 1 := ⟨im_Ro_init.1, gf_mem 94 (by decide +kernel) (by decide +kernel), im_Ro_init.2.1, im_Ro_init.2.2, rfl, by decide +kernel, by decide +kernel, by decide +kernel⟩
theorem wk_Fi_34 : gf_kI "GuardFigures" 34 yy_Wr_init cc_Wr_init 1 0 := ⟨im_Wr_init.1, gf_mem 138 (by decide +kernel) (by decide +kernel), im_Wr_init.2.1, im_Wr_init.2.2, rfl, by decide +kernel, by decide +kernel, by decide +kernel⟩
theorem wk_Fi_41 : gf_kI "GuardFigures" 41 yy_Re_init cc_Re_init 2 0 := ⟨im_Re_init.1, gf_mem 167 (by decide +kernel) (by decide +kernel), im_Re_init.2.1, im_Re_init.2.2, rfl, by decide +kernel, by decide +kernel, by decide +kernel⟩
theorem wk_Fi_48 : gf_kI "GuardFigures" 48 yy_Wa_init cc_Wa_init 1 0 := ⟨im_Wa_init.1, gf_mem 184 (by decide +kernel) (by decide +kernel), im_Wa_init.2.1, im_Wa_init.2.2, rfl, by decide +kernel, by decide +kernel, by decide +kernel⟩
theorem wk_Fi_55 : gf_kI "GuardFigures" 55 yy_Ou_init cc_Ou_init 1 0 := ⟨im_Ou_init.1, gf_mem 210 (by decide +kernel) (by decide +kernel), im_Ou_init.2.1, im_Ou_init.2.2, rfl, by decide +kernel, by decide +kernel, by decide +kernel⟩
theorem wk_La_13 : gf_kV "GuardFiguresLaw" 13 yy_Fi_row cc_Fi_row 3 (some .int) 2 := ⟨im_Fi_row.1, gf_mem 275 (by decide +kernel) (by decide +kernel), im_Fi_row.2.1, im_Fi_row.2.2.1, im_Fi_row.2.2.2, by decide +kernel, by decide +kernel, by decide +kernel⟩
theorem wk_Fi_78 : gf_kS "GuardFigures" 78 yy_Fi_isWithin cc_Fi_isWithin 2 (some .boolean) 2 := ⟨im_Fi_isWithin.1, gf_mem 279 (by decide +kernel) (by decide +kernel), im_Fi_isWithin.2.1, im_Fi_isWithin.2.2.1, im_Fi_isWithin.2.2.2⟩
theorem wk_Fi_82 : gf_kV "GuardFigures" 82 yy_Fi_renew cc_Fi_renew 4 (some .int) 3 := ⟨im_Fi_renew.1, gf_mem 282 (by decide +kernel) (by decide +kernel), im_Fi_renew.2.1, im_Fi_renew.2.2.1, im_Fi_renew.2.2.2, by decide +kernel, by decide +kernel, by decide +kernel⟩
theorem wk_Fi_104 : gf_kV "GuardFigures" 104 yy_Fi_found cc_Fi_found 2 (some .int) 1 := ⟨im_Fi_found.1, gf_mem 286 (by decide +kernel) (by decide +kernel), im_Fi_found.2.1, im_Fi_found.2.2.1, im_Fi_found.2.2.2, by decide +kernel, by decide +kernel, by decide +kernel⟩
theorem wk_Fi_311 : gf_kV "GuardFigures" 311 yy_Ro_renew cc_Ro_renew 4 none 2 := ⟨im_Ro_renew.1, gf_mem 290 (by decide +kernel) (by decide +kernel), im_Ro_renew.2.1, im_Ro_renew.2.2.1, im_Ro_renew.2.2.2, by decide +kernel, by decide +kernel, by decide +kernel⟩
theorem wk_La_18 : gf_kV "GuardFiguresLaw" 18 yy_Fi_lay cc_Fi_lay 5 (some .int) 3 := ⟨im_Fi_lay.1, gf_mem 297 (by decide +kernel) (by decide +kernel), im_Fi_lay.2.1, im_Fi_lay.2.2.1, im_Fi_lay.2.2.2, by decide +kernel, by decide +kernel, by decide +kernel⟩
theorem wk_Fi_86 : gf_kV "GuardFigures" 86 yy_Fi_refusedPlace cc_Fi_refusedPlace 3 (some .int) 2 := ⟨im_Fi_refusedPlace.1, gf_mem 301 (by decide +kernel) (by decide +kernel), im_Fi_refusedPlace.2.1, im_Fi_refusedPlace.2.2.1, im_Fi_refusedPlace.2.2.2, by decide +kernel, by decide +kernel, by decide +kernel⟩
theorem wk_Fi_100 : gf_kV "GuardFigures" 100 yy_Ro_isThere cc_Ro_isThere 1 (some .boolean) 0 := ⟨im_Ro_isThere.1, gf_mem 305 (by decide +kernel) (by decide +kernel), im_Ro_isThere.2.1, im_Ro_isThere.2.2.1, im_Ro_isThere.2.2.2, by decide +kernel, by decide +kernel, by decide +kernel⟩
theorem wk_Fi_111 : gf_kV "GuardFigures" 111 yy_Ro_hasPlaces cc_Ro_hasPlaces 3 (some .boolean) 2 := ⟨im_Ro_hasPlaces.1, gf_mem 309 (by decide +kernel) (by decide +kernel), im_Ro_hasPlaces.2.1, im_Ro_hasPlaces.2.2.1, im_Ro_hasPlaces.2.2.2, by decide +kernel, by decide +kernel, by decide +kernel⟩
theorem wk_Fi_90 : gf_kV "GuardFigures" 90 yy_Ro_replace cc_Ro_replace 4 (some .int) 2 := ⟨im_Ro_replace.1, gf_mem 313 (by decide +kernel) (by decide +kernel), im_Ro_replace.2.1, im_Ro_replace.2.2.1, im_Ro_replace.2.2.2, by decide +kernel, by decide +kernel, by decide +kernel⟩
theorem wk_Fi_93 : gf_kV "GuardFigures" 93 yy_Fi_tell cc_Fi_tell 2 (some .int) 1 := ⟨im_Fi_tell.1, gf_mem 317 (by decide +kernel) (by decide +kernel), im_Fi_tell.2.1, im_Fi_tell.2.2.1, im_Fi_tell.2.2.2, by decide +kernel, by decide +kernel, by decide +kernel⟩
theorem wk_La_23 : gf_kV "GuardFiguresLaw" 23 yy_Fi_at cc_Fi_at 4 (some .int) 2 := ⟨im_Fi_at.1, gf_mem 321 (by decide +kernel) (by decide +kernel), im_Fi_at.2.1, im_Fi_at.2.2.1, im_Fi_at.2.2.2, by decide +kernel, by decide +kernel, by decide +kernel⟩
theorem wk_La_27 : gf_kV "GuardFiguresLaw" 27 yy_Fi_tear cc_Fi_tear 2 (some .int) 1 := ⟨im_Fi_tear.1, gf_mem 325 (by decide +kernel) (by decide +kernel), im_Fi_tear.2.1, im_Fi_tear.2.2.1, im_Fi_tear.2.2.2, by decide +kernel, by decide +kernel, by decide +kernel⟩
theorem wk_La_32 : gf_kV "GuardFiguresLaw" 32 yy_Fi_copy cc_Fi_copy 6 (some .int) 5 := ⟨im_Fi_copy.1, gf_mem 329 (by decide +kernel) (by decide +kernel), im_Fi_copy.2.1, im_Fi_copy.2.2.1, im_Fi_copy.2.2.2, by decide +kernel, by decide +kernel, by decide +kernel⟩
theorem wk_La_37 : gf_kV "GuardFiguresLaw" 37 yy_Fi_mean cc_Fi_mean 3 (some .int) 1 := ⟨im_Fi_mean.1, gf_mem 336 (by decide +kernel) (by decide +kernel), im_Fi_mean.2.1, im_Fi_mean.2.2.1, im_Fi_mean.2.2.2, by decide +kernel, by decide +kernel, by decide +kernel⟩
theorem wk_Fi_120 : gf_kV "GuardFigures" 120 yy_Ro_sum cc_Ro_sum 4 (some .long) 0 := ⟨im_Ro_sum.1, gf_mem 340 (by decide +kernel) (by decide +kernel), im_Ro_sum.2.1, im_Ro_sum.2.2.1, im_Ro_sum.2.2.2, by decide +kernel, by decide +kernel, by decide +kernel⟩
theorem wk_La_41 : gf_kV "GuardFiguresLaw" 41 yy_Fi_text cc_Fi_text 3 (some .int) 2 := ⟨im_Fi_text.1, gf_mem 344 (by decide +kernel) (by decide +kernel), im_Fi_text.2.1, im_Fi_text.2.2.1, im_Fi_text.2.2.2, by decide +kernel, by decide +kernel, by decide +kernel⟩
theorem wk_La_45 : gf_kV "GuardFiguresLaw" 45 yy_Fi_put cc_Fi_put 4 (some .int) 3 := ⟨im_Fi_put.1, gf_mem 348 (by decide +kernel) (by decide +kernel), im_Fi_put.2.1, im_Fi_put.2.2.1, im_Fi_put.2.2.2, by decide +kernel, by decide +kernel, by decide +kernel⟩
theorem wk_La_49 : gf_kV "GuardFiguresLaw" 49 yy_Fi_fault cc_Fi_fault 2 (some .int) 1 := ⟨im_Fi_fault.1, gf_mem 352 (by decide +kernel) (by decide +kernel), im_Fi_fault.2.1, im_Fi_fault.2.2.1, im_Fi_fault.2.2.2, by decide +kernel, by decide +kernel, by decide +kernel⟩
theorem wk_Fi_124 : gf_kV "GuardFigures" 124 yy_Re_read cc_Re_read 5 (some .int) 1 := ⟨im_Re_read.1, gf_mem 356 (by decide +kernel) (by decide +kernel), im_Re_read.2.1, im_Re_read.2.2.1, im_Re_read.2.2.2, by decide +kernel, by decide +kernel, by decide +kernel⟩
theorem wk_Re_31 : gf_kV "GuardFigures$Reader" 31 yy_Re_readGuard cc_Re_readGuard 5 (some .int) 2 := ⟨im_Re_readGuard.1, gf_mem 360 (by decide +kernel) (by decide +kernel), im_Re_readGuard.2.1, im_Re_readGuard.2.2.1, im_Re_readGuard.2.2.2, by decide +kernel, by decide +kernel, by decide +kernel⟩
theorem wk_Re_35 : gf_kS "GuardFigures$Reader" 35 yy_Re_kindOf cc_Re_kindOf 2 (some .int) 1 := ⟨im_Re_kindOf.1, gf_mem 364 (by decide +kernel) (by decide +kernel), im_Re_kindOf.2.1, im_Re_kindOf.2.2.1, im_Re_kindOf.2.2.2⟩
theorem wk_La_53 : gf_kV "GuardFiguresLaw" 53 yy_Fi_house cc_Fi_house 3 (some .int) 1 := ⟨im_Fi_house.1, gf_mem 370 (by decide +kernel) (by decide +kernel), im_Fi_house.2.1, im_Fi_house.2.2.1, im_Fi_house.2.2.2, by decide +kernel, by decide +kernel, by decide +kernel⟩
theorem wk_Fi_133 : gf_kV "GuardFigures" 133 yy_Gd_resemble cc_Gd_resemble 2 none 1 := ⟨im_Gd_resemble.1, gf_mem 374 (by decide +kernel) (by decide +kernel), im_Gd_resemble.2.1, im_Gd_resemble.2.2.1, im_Gd_resemble.2.2.2, by decide +kernel, by decide +kernel, by decide +kernel⟩
theorem wk_Fi_137 : gf_kV "GuardFigures" 137 yy_Wr_clear cc_Wr_clear 1 none 0 := ⟨im_Wr_clear.1, gf_mem 378 (by decide +kernel) (by decide +kernel), im_Wr_clear.2.1, im_Wr_clear.2.2.1, im_Wr_clear.2.2.2, by decide +kernel, by decide +kernel, by decide +kernel⟩
theorem wk_La_57 : gf_kV "GuardFiguresLaw" 57 yy_Fi_guard cc_Fi_guard 3 (some .int) 2 := ⟨im_Fi_guard.1, gf_mem 382 (by decide +kernel) (by decide +kernel), im_Fi_guard.2.1, im_Fi_guard.2.2.1, im_Fi_guard.2.2.2, by decide +kernel, by decide +kernel, by decide +kernel⟩
theorem wk_Fi_143 : gf_kV "GuardFigures" 143 yy_Fi_isGuard cc_Fi_isGuard 2 (some .boolean) 1 := ⟨im_Fi_isGuard.1, gf_mem 386 (by decide +kernel) (by decide +kernel), im_Fi_isGuard.2.1, im_Fi_isGuard.2.2.1, im_Fi_isGuard.2.2.2, by decide +kernel, by decide +kernel, by decide +kernel⟩
theorem wk_Fi_147 : gf_kV "GuardFigures" 147 yy_Fi_ofGuard cc_Fi_ofGuard 3 (some .int) 2 := ⟨im_Fi_ofGuard.1, gf_mem 390 (by decide +kernel) (by decide +kernel), im_Fi_ofGuard.2.1, im_Fi_ofGuard.2.2.1, im_Fi_ofGuard.2.2.2, by decide +kernel, by decide +kernel, by decide +kernel⟩
theorem wk_Fi_159 : gf_kV "GuardFigures" 159 yy_Fi_reckoned cc_Fi_reckoned 2 (some .int) 1 := ⟨im_Fi_reckoned.1, gf_mem 394 (by decide +kernel) (by decide +kernel), im_Fi_reckoned.2.1, im_Fi_reckoned.2.2.1, im_Fi_reckoned.2.2.2, by decide +kernel, by decide +kernel, by decide +kernel⟩
theorem wk_Fi_314 : gf_kV "GuardFigures" 314 yy_Gd_reckon cc_Gd_reckon 5 (some .int) 2 := ⟨im_Gd_reckon.1, gf_mem 398 (by decide +kernel) (by decide +kernel), im_Gd_reckon.2.1, im_Gd_reckon.2.2.1, im_Gd_reckon.2.2.2, by decide +kernel, by decide +kernel, by decide +kernel⟩
theorem wk_Gd_32 : gf_kV "GuardFigures$Guard" 32 yy_Gd_follow cc_Gd_follow 5 (some .int) 4 := ⟨im_Gd_follow.1, gf_mem 402 (by decide +kernel) (by decide +kernel), im_Gd_follow.2.1, im_Gd_follow.2.2.1, im_Gd_follow.2.2.2, by decide +kernel, by decide +kernel, by decide +kernel⟩
theorem wk_Gd_25 : gf_kV "GuardFigures$Guard" 25 yy_Gd_weight cc_Gd_weight 2 (some .int) 1 := ⟨im_Gd_weight.1, gf_mem 406 (by decide +kernel) (by decide +kernel), im_Gd_weight.2.1, im_Gd_weight.2.2.1, im_Gd_weight.2.2.2, by decide +kernel, by decide +kernel, by decide +kernel⟩
theorem wk_Gd_29 : gf_kS "GuardFigures$Guard" 29 yy_Gd_crossSum cc_Gd_crossSum 1 (some .int) 1 := ⟨im_Gd_crossSum.1, gf_mem 410 (by decide +kernel) (by decide +kernel), im_Gd_crossSum.2.1, im_Gd_crossSum.2.2.1, im_Gd_crossSum.2.2.2⟩
theorem wk_Gd_36 : gf_kV "GuardFigures$Guard" 36 yy_Gd_finish cc_Gd_finish 3 (some .int) 2 := ⟨im_Gd_finish.1, gf_mem 413 (by decide +kernel) (by decide +kernel), im_Gd_finish.2.1, im_Gd_finish.2.2.1, im_Gd_finish.2.2.2, by decide +kernel, by decide +kernel, by decide +kernel⟩
theorem wk_Fi_198 : gf_kV "GuardFigures" 198 yy_Wa_look cc_Wa_look 7 none 4 := ⟨im_Wa_look.1, gf_mem 417 (by decide +kernel) (by decide +kernel), im_Wa_look.2.1, im_Wa_look.2.2.1, im_Wa_look.2.2.2, by decide +kernel, by decide +kernel, by decide +kernel⟩
theorem wk_Wa_27 : gf_kV "GuardFigures$Watch" 27 yy_Wa_listThings cc_Wa_listThings 4 none 1 := ⟨im_Wa_listThings.1, gf_mem 421 (by decide +kernel) (by decide +kernel), im_Wa_listThings.2.1, im_Wa_listThings.2.2.1, im_Wa_listThings.2.2.2, by decide +kernel, by decide +kernel, by decide +kernel⟩
theorem wk_Wa_65 : gf_kV "GuardFigures$Watch" 65 yy_Wa_list cc_Wa_list 2 none 1 := ⟨im_Wa_list.1, gf_mem 425 (by decide +kernel) (by decide +kernel), im_Wa_list.2.1, im_Wa_list.2.2.1, im_Wa_list.2.2.2, by decide +kernel, by decide +kernel, by decide +kernel⟩
theorem wk_Wa_69 : gf_kV "GuardFigures$Watch" 69 yy_Wa_listExchanges cc_Wa_listExchanges 4 none 2 := ⟨im_Wa_listExchanges.1, gf_mem 429 (by decide +kernel) (by decide +kernel), im_Wa_listExchanges.2.1, im_Wa_listExchanges.2.2.1, im_Wa_listExchanges.2.2.2, by decide +kernel, by decide +kernel, by decide +kernel⟩
theorem wk_Wa_40 : gf_kV "GuardFigures$Watch" 40 yy_Gd_reckon cc_Gd_reckon 5 (some .int) 2 := ⟨im_Gd_reckon.1, gf_mem 433 (by decide +kernel) (by decide +kernel), im_Gd_reckon.2.1, im_Gd_reckon.2.2.1, im_Gd_reckon.2.2.2, by decide +kernel, by decide +kernel, by decide +kernel⟩
theorem wk_Wa_49 : gf_kV "GuardFigures$Watch" 49 yy_Wa_copyWith cc_Wa_copyWith 3 none 2 := ⟨im_Wa_copyWith.1, gf_mem 434 (by decide +kernel) (by decide +kernel), im_Wa_copyWith.2.1, im_Wa_copyWith.2.2.1, im_Wa_copyWith.2.2.2, by decide +kernel, by decide +kernel, by decide +kernel⟩
theorem wk_Fi_302 : gf_kV "GuardFigures" 302 yy_Wa_unseen cc_Wa_unseen 5 (some .int) 2 := ⟨im_Wa_unseen.1, gf_mem 442 (by decide +kernel) (by decide +kernel), im_Wa_unseen.2.1, im_Wa_unseen.2.2.1, im_Wa_unseen.2.2.2, by decide +kernel, by decide +kernel, by decide +kernel⟩
theorem wk_Wa_57 : gf_kV "GuardFigures$Watch" 57 yy_Wa_startOf cc_Wa_startOf 2 (some .int) 1 := ⟨im_Wa_startOf.1, gf_mem 446 (by decide +kernel) (by decide +kernel), im_Wa_startOf.2.1, im_Wa_startOf.2.2.1, im_Wa_startOf.2.2.2, by decide +kernel, by decide +kernel, by decide +kernel⟩
theorem wk_Wa_61 : gf_kV "GuardFigures$Watch" 61 yy_Wa_isNoticed cc_Wa_isNoticed 3 (some .boolean) 2 := ⟨im_Wa_isNoticed.1, gf_mem 450 (by decide +kernel) (by decide +kernel), im_Wa_isNoticed.2.1, im_Wa_isNoticed.2.2.1, im_Wa_isNoticed.2.2.2, by decide +kernel, by decide +kernel, by decide +kernel⟩
theorem wk_La_61 : gf_kV "GuardFiguresLaw" 61 yy_Fi_mark cc_Fi_mark 3 (some .int) 2 := ⟨im_Fi_mark.1, gf_mem 454 (by decide +kernel) (by decide +kernel), im_Fi_mark.2.1, im_Fi_mark.2.2.1, im_Fi_mark.2.2.2, by decide +kernel, by decide +kernel, by decide +kernel⟩
theorem wk_Fi_150 : gf_kV "GuardFigures" 150 yy_Gd_is cc_Gd_is 4 (some .boolean) 1 := ⟨im_Gd_is.1, gf_mem 458 (by decide +kernel) (by decide +kernel), im_Gd_is.2.1, im_Gd_is.2.2.1, im_Gd_is.2.2.2, by decide +kernel, by decide +kernel, by decide +kernel⟩
theorem wk_La_65 : gf_kV "GuardFiguresLaw" 65 yy_Fi_figure cc_Fi_figure 2 (some .int) 1 := ⟨im_Fi_figure.1, gf_mem 468 (by decide +kernel) (by decide +kernel), im_Fi_figure.2.1, im_Fi_figure.2.2.1, im_Fi_figure.2.2.2, by decide +kernel, by decide +kernel, by decide +kernel⟩
theorem wk_La_69 : gf_kV "GuardFiguresLaw" 69 yy_Fi_add cc_Fi_add 2 (some .int) 1 := ⟨im_Fi_add.1, gf_mem 472 (by decide +kernel) (by decide +kernel), im_Fi_add.2.1, im_Fi_add.2.2.1, im_Fi_add.2.2.2, by decide +kernel, by decide +kernel, by decide +kernel⟩
theorem wk_Fi_175 : gf_kV "GuardFigures" 175 yy_Wr_remember cc_Wr_remember 3 none 0 := ⟨im_Wr_remember.1, gf_mem 476 (by decide +kernel) (by decide +kernel), im_Wr_remember.2.1, im_Wr_remember.2.2.1, im_Wr_remember.2.2.2, by decide +kernel, by decide +kernel, by decide +kernel⟩
theorem wk_Fi_178 : gf_kV "GuardFigures" 178 yy_Wr_append cc_Wr_append 2 none 1 := ⟨im_Wr_append.1, gf_mem 480 (by decide +kernel) (by decide +kernel), im_Wr_append.2.1, im_Wr_append.2.2.1, im_Wr_append.2.2.2, by decide +kernel, by decide +kernel, by decide +kernel⟩
theorem wk_La_73 : gf_kV "GuardFiguresLaw" 73 yy_Fi_drop cc_Fi_drop 1 (some .int) 0 := ⟨im_Fi_drop.1, gf_mem 484 (by decide +kernel) (by decide +kernel), im_Fi_drop.2.1, im_Fi_drop.2.2.1, im_Fi_drop.2.2.2, by decide +kernel, by decide +kernel, by decide +kernel⟩
theorem wk_Fi_181 : gf_kV "GuardFigures" 181 yy_Wr_removeLast cc_Wr_removeLast 1 (some .int) 0 := ⟨im_Wr_removeLast.1, gf_mem 488 (by decide +kernel) (by decide +kernel), im_Wr_removeLast.2.1, im_Wr_removeLast.2.2.1, im_Wr_removeLast.2.2.2, by decide +kernel, by decide +kernel, by decide +kernel⟩
theorem wk_La_78 : gf_kV "GuardFiguresLaw" 78 yy_Fi_change cc_Fi_change 4 (some .int) 2 := ⟨im_Fi_change.1, gf_mem 492 (by decide +kernel) (by decide +kernel), im_Fi_change.2.1, im_Fi_change.2.2.1, im_Fi_change.2.2.2, by decide +kernel, by decide +kernel, by decide +kernel⟩
theorem wk_La_82 : gf_kV "GuardFiguresLaw" 82 yy_Fi_swap cc_Fi_swap 2 (some .int) 1 := ⟨im_Fi_swap.1, gf_mem 496 (by decide +kernel) (by decide +kernel), im_Fi_swap.2.1, im_Fi_swap.2.2.1, im_Fi_swap.2.2.2, by decide +kernel, by decide +kernel, by decide +kernel⟩
theorem wk_Fi_185 : gf_kS "GuardFigures" 185 yy_Fi_exchange cc_Fi_exchange 4 none 3 := ⟨im_Fi_exchange.1, gf_mem 500 (by decide +kernel) (by decide +kernel), im_Fi_exchange.2.1, im_Fi_exchange.2.2.1, im_Fi_exchange.2.2.2⟩
theorem wk_La_86 : gf_kV "GuardFiguresLaw" 86 yy_Fi_undo cc_Fi_undo 3 (some .int) 1 := ⟨im_Fi_undo.1, gf_mem 501 (by decide +kernel) (by decide +kernel), im_Fi_undo.2.1, im_Fi_undo.2.2.1, im_Fi_undo.2.2.2, by decide +kernel, by decide +kernel, by decide +kernel⟩
theorem wk_Fi_189 : gf_kV "GuardFigures" 189 yy_Wr_goBackTo cc_Wr_goBackTo 4 none 1 := ⟨im_Wr_goBackTo.1, gf_mem 505 (by decide +kernel) (by decide +kernel), im_Wr_goBackTo.2.1, im_Wr_goBackTo.2.2.1, im_Wr_goBackTo.2.2.2, by decide +kernel, by decide +kernel, by decide +kernel⟩
theorem wk_La_90 : gf_kV "GuardFiguresLaw" 90 yy_Fi_keep cc_Fi_keep 2 (some .int) 1 := ⟨im_Fi_keep.1, gf_mem 509 (by decide +kernel) (by decide +kernel), im_Fi_keep.2.1, im_Fi_keep.2.2.1, im_Fi_keep.2.2.2, by decide +kernel, by decide +kernel, by decide +kernel⟩
theorem wk_Fi_192 : gf_kV "GuardFigures" 192 yy_Wr_resemble cc_Wr_resemble 2 none 1 := ⟨im_Wr_resemble.1, gf_mem 513 (by decide +kernel) (by decide +kernel), im_Wr_resemble.2.1, im_Wr_resemble.2.2.1, im_Wr_resemble.2.2.2, by decide +kernel, by decide +kernel, by decide +kernel⟩
theorem wk_La_94 : gf_kV "GuardFiguresLaw" 94 yy_Fi_on cc_Fi_on 2 (some .int) 1 := ⟨im_Fi_on.1, gf_mem 518 (by decide +kernel) (by decide +kernel), im_Fi_on.2.1, im_Fi_on.2.2.1, im_Fi_on.2.2.2, by decide +kernel, by decide +kernel, by decide +kernel⟩
theorem wk_La_98 : gf_kV "GuardFiguresLaw" 98 yy_Fi_slips cc_Fi_slips 2 (some .int) 1 := ⟨im_Fi_slips.1, gf_mem 522 (by decide +kernel) (by decide +kernel), im_Fi_slips.2.1, im_Fi_slips.2.2.1, im_Fi_slips.2.2.2, by decide +kernel, by decide +kernel, by decide +kernel⟩
theorem wk_Fi_195 : gf_kV "GuardFigures" 195 yy_Fi_tellUnseen cc_Fi_tellUnseen 4 (some .int) 2 := ⟨im_Fi_tellUnseen.1, gf_mem 526 (by decide +kernel) (by decide +kernel), im_Fi_tellUnseen.2.1, im_Fi_tellUnseen.2.2.1, im_Fi_tellUnseen.2.2.2, by decide +kernel, by decide +kernel, by decide +kernel⟩
theorem wk_Fi_304 : gf_kV "GuardFigures" 304 yy_Wa_firstUnseen cc_Wa_firstUnseen 4 (some .int) 2 := ⟨im_Wa_firstUnseen.1, gf_mem 530 (by decide +kernel) (by decide +kernel), im_Wa_firstUnseen.2.1, im_Wa_firstUnseen.2.2.1, im_Wa_firstUnseen.2.2.2, by decide +kernel, by decide +kernel, by decide +kernel⟩
theorem wk_La_102 : gf_kV "GuardFiguresLaw" 102 yy_Fi_swaps cc_Fi_swaps 2 (some .int) 1 := ⟨im_Fi_swaps.1, gf_mem 534 (by decide +kernel) (by decide +kernel), im_Fi_swaps.2.1, im_Fi_swaps.2.2.1, im_Fi_swaps.2.2.2, by decide +kernel, by decide +kernel, by decide +kernel⟩
theorem wk_La_106 : gf_kV "GuardFiguresLaw" 106 yy_Fi_jumps cc_Fi_jumps 2 (some .int) 1 := ⟨im_Fi_jumps.1, gf_mem 538 (by decide +kernel) (by decide +kernel), im_Fi_jumps.2.1, im_Fi_jumps.2.2.1, im_Fi_jumps.2.2.2, by decide +kernel, by decide +kernel, by decide +kernel⟩
theorem wk_La_110 : gf_kV "GuardFiguresLaw" 110 yy_Fi_best cc_Fi_best 5 (some .int) 0 := ⟨im_Fi_best.1, gf_mem 542 (by decide +kernel) (by decide +kernel), im_Fi_best.2.1, im_Fi_best.2.2.1, im_Fi_best.2.2.2, by decide +kernel, by decide +kernel, by decide +kernel⟩
theorem wk_Fi_202 : gf_kV "GuardFigures" 202 yy_Wa_unseen2 cc_Wa_unseen2 2 (some .int) 1 := ⟨im_Wa_unseen2.1, gf_mem 546 (by decide +kernel) (by decide +kernel), im_Wa_unseen2.2.1, im_Wa_unseen2.2.2.1, im_Wa_unseen2.2.2.2, by decide +kernel, by decide +kernel, by decide +kernel⟩
theorem wk_Wa_53 : gf_kV "GuardFigures$Watch" 53 yy_Wa_unseen cc_Wa_unseen 5 (some .int) 2 := ⟨im_Wa_unseen.1, gf_mem 550 (by decide +kernel) (by decide +kernel), im_Wa_unseen.2.1, im_Wa_unseen.2.2.1, im_Wa_unseen.2.2.2, by decide +kernel, by decide +kernel, by decide +kernel⟩
theorem wk_La_114 : gf_kV "GuardFiguresLaw" 114 yy_Fi_cover cc_Fi_cover 4 (some .int) 0 := ⟨im_Fi_cover.1, gf_mem 551 (by decide +kernel) (by decide +kernel), im_Fi_cover.2.1, im_Fi_cover.2.2.1, im_Fi_cover.2.2.2, by decide +kernel, by decide +kernel, by decide +kernel⟩
theorem wk_Fi_208 : gf_kS "GuardFigures" 208 yy_In_bitCount cc_In_bitCount 1 (some .int) 1 := ⟨im_In_bitCount.1, gf_mem 555 (by decide +kernel) (by decide +kernel), im_In_bitCount.2.1, im_In_bitCount.2.2.1, im_In_bitCount.2.2.2⟩
theorem wk_Fi_213 : gf_kV "GuardFigures" 213 yy_Wa_isCoveredBy cc_Wa_isCoveredBy 3 (some .boolean) 1 := ⟨im_Wa_isCoveredBy.1, gf_mem 561 (by decide +kernel) (by decide +kernel), im_Wa_isCoveredBy.2.1, im_Wa_isCoveredBy.2.2.1, im_Wa_isCoveredBy.2.2.2, by decide +kernel, by decide +kernel, by decide +kernel⟩
theorem wk_La_118 : gf_kV "GuardFiguresLaw" 118 yy_Fi_next cc_Fi_next 5 (some .int) 2 := ⟨im_Fi_next.1, gf_mem 565 (by decide +kernel) (by decide +kernel), im_Fi_next.2.1, im_Fi_next.2.2.1, im_Fi_next.2.2.2, by decide +kernel, by decide +kernel, by decide +kernel⟩
theorem wk_Fi_219 : gf_kS "GuardFigures" 219 yy_Fi_isCheck cc_Fi_isCheck 1 (some .boolean) 1 := ⟨im_Fi_isCheck.1, gf_mem 569 (by decide +kernel) (by decide +kernel), im_Fi_isCheck.2.1, im_Fi_isCheck.2.2.1, im_Fi_isCheck.2.2.2⟩
theorem wk_Fi_222 : gf_kV "GuardFigures" 222 yy_Fi_reckonedWith cc_Fi_reckonedWith 4 (some .int) 2 := ⟨im_Fi_reckonedWith.1, gf_mem 572 (by decide +kernel) (by decide +kernel), im_Fi_reckonedWith.2.1, im_Fi_reckonedWith.2.2.1, im_Fi_reckonedWith.2.2.2, by decide +kernel, by decide +kernel, by decide +kernel⟩
theorem wk_La_122 : gf_kV "GuardFiguresLaw" 122 yy_Fi_near cc_Fi_near 4 (some .int) 2 := ⟨im_Fi_near.1, gf_mem 576 (by decide +kernel) (by decide +kernel), im_Fi_near.2.1, im_Fi_near.2.2.1, im_Fi_near.2.2.2, by decide +kernel, by decide +kernel, by decide +kernel⟩
theorem wk_Fi_226 : gf_kV "GuardFigures" 226 yy_Ou_fewestOthers cc_Ou_fewestOthers 10 (some .int) 3 := ⟨im_Ou_fewestOthers.1, gf_mem 580 (by decide +kernel) (by decide +kernel), im_Ou_fewestOthers.2.1, im_Ou_fewestOthers.2.2.1, im_Ou_fewestOthers.2.2.2, by decide +kernel, by decide +kernel, by decide +kernel⟩
theorem wk_Ou_21 : gf_kV "GuardFigures$Outlook" 21 yy_Ou_endWithCheck cc_Ou_endWithCheck 7 none 5 := ⟨im_Ou_endWithCheck.1, gf_mem 584 (by decide +kernel) (by decide +kernel), im_Ou_endWithCheck.2.1, im_Ou_endWithCheck.2.2.1, im_Ou_endWithCheck.2.2.2, by decide +kernel, by decide +kernel, by decide +kernel⟩
theorem wk_Ou_90 : gf_kV "GuardFigures$Outlook" 90 yy_Gd_finish cc_Gd_finish 3 (some .int) 2 := ⟨im_Gd_finish.1, gf_mem 588 (by decide +kernel) (by decide +kernel), im_Gd_finish.2.1, im_Gd_finish.2.2.1, im_Gd_finish.2.2.2, by decide +kernel, by decide +kernel, by decide +kernel⟩
theorem wk_Ou_37 : gf_kV "GuardFigures$Outlook" 37 yy_Ou_keepValue cc_Ou_keepValue 6 none 3 := ⟨im_Ou_keepValue.1, gf_mem 589 (by decide +kernel) (by decide +kernel), im_Ou_keepValue.2.1, im_Ou_keepValue.2.2.1, im_Ou_keepValue.2.2.2, by decide +kernel, by decide +kernel, by decide +kernel⟩
theorem wk_Ou_27 : gf_kV "GuardFigures$Outlook" 27 yy_Ou_othersWith cc_Ou_othersWith 7 (some .long) 5 := ⟨im_Ou_othersWith.1, gf_mem 595 (by decide +kernel) (by decide +kernel), im_Ou_othersWith.2.1, im_Ou_othersWith.2.2.1, im_Ou_othersWith.2.2.2, by decide +kernel, by decide +kernel, by decide +kernel⟩
theorem wk_Ou_48 : gf_kV "GuardFigures$Outlook" 48 yy_Gd_follow cc_Gd_follow 5 (some .int) 4 := ⟨im_Gd_follow.1, gf_mem 599 (by decide +kernel) (by decide +kernel), im_Gd_follow.2.1, im_Gd_follow.2.2.1, im_Gd_follow.2.2.2, by decide +kernel, by decide +kernel, by decide +kernel⟩
theorem wk_Ou_44 : gf_kV "GuardFigures$Outlook" 44 yy_Ou_valueOf cc_Ou_valueOf 4 (some .long) 2 := ⟨im_Ou_valueOf.1, gf_mem 600 (by decide +kernel) (by decide +kernel), im_Ou_valueOf.2.1, im_Ou_valueOf.2.2.1, im_Ou_valueOf.2.2.2, by decide +kernel, by decide +kernel, by decide +kernel⟩
theorem wk_La_126 : gf_kV "GuardFiguresLaw" 126 yy_Fi_fills cc_Fi_fills 6 (some .int) 3 := ⟨im_Fi_fills.1, gf_mem 607 (by decide +kernel) (by decide +kernel), im_Fi_fills.2.1, im_Fi_fills.2.2.1, im_Fi_fills.2.2.2, by decide +kernel, by decide +kernel, by decide +kernel⟩
theorem wk_Fi_233 : gf_kS "GuardFigures" 233 yy_Fi_isSmearedNumber cc_Fi_isSmearedNumber 3 (some .boolean) 1 := ⟨im_Fi_isSmearedNumber.1, gf_mem 611 (by decide +kernel) (by decide +kernel), im_Fi_isSmearedNumber.2.1, im_Fi_isSmearedNumber.2.2.1, im_Fi_isSmearedNumber.2.2.2⟩
theorem wk_Fi_237 : gf_kV "GuardFigures" 237 yy_Ou_waysToFill cc_Ou_waysToFill 10 (some .int) 3 := ⟨im_Ou_waysToFill.1, gf_mem 614 (by decide +kernel) (by decide +kernel), im_Ou_waysToFill.2.1, im_Ou_waysToFill.2.2.1, im_Ou_waysToFill.2.2.2, by decide +kernel, by decide +kernel, by decide +kernel⟩
theorem wk_Ou_61 : gf_kV "GuardFigures$Outlook" 61 yy_Ou_waysWith cc_Ou_waysWith 6 (some .long) 5 := ⟨im_Ou_waysWith.1, gf_mem 618 (by decide +kernel) (by decide +kernel), im_Ou_waysWith.2.1, im_Ou_waysWith.2.2.1, im_Ou_waysWith.2.2.2, by decide +kernel, by decide +kernel, by decide +kernel⟩
theorem wk_La_130 : gf_kV "GuardFiguresLaw" 130 yy_Fi_kinds cc_Fi_kinds 4 (some .int) 2 := ⟨im_Fi_kinds.1, gf_mem 622 (by decide +kernel) (by decide +kernel), im_Fi_kinds.2.1, im_Fi_kinds.2.2.1, im_Fi_kinds.2.2.2, by decide +kernel, by decide +kernel, by decide +kernel⟩
theorem wk_Fi_241 : gf_kV "GuardFigures" 241 yy_Fi_refusedExample cc_Fi_refusedExample 4 (some .int) 1 := ⟨im_Fi_refusedExample.1, gf_mem 626 (by decide +kernel) (by decide +kernel), im_Fi_refusedExample.2.1, im_Fi_refusedExample.2.2.1, im_Fi_refusedExample.2.2.2, by decide +kernel, by decide +kernel, by decide +kernel⟩
theorem wk_Fi_244 : gf_kV "GuardFigures" 244 yy_Fi_kindsBy cc_Fi_kindsBy 5 (some .int) 2 := ⟨im_Fi_kindsBy.1, gf_mem 630 (by decide +kernel) (by decide +kernel), im_Fi_kindsBy.2.1, im_Fi_kindsBy.2.2.1, im_Fi_kindsBy.2.2.2, by decide +kernel, by decide +kernel, by decide +kernel⟩
theorem wk_Fi_251 : gf_kS "GuardFigures" 251 yy_Fi_reckonsAsTold cc_Fi_reckonsAsTold 3 (some .boolean) 2 := ⟨im_Fi_reckonsAsTold.1, gf_mem 634 (by decide +kernel) (by decide +kernel), im_Fi_reckonsAsTold.2.1, im_Fi_reckonsAsTold.2.2.1, im_Fi_reckonsAsTold.2.2.2⟩
theorem wk_La_134 : gf_kV "GuardFiguresLaw" 134 yy_Fi_firsts cc_Fi_firsts 6 (some .int) 2 := ⟨im_Fi_firsts.1, gf_mem 637 (by decide +kernel) (by decide +kernel), im_Fi_firsts.2.1, im_Fi_firsts.2.2.1, im_Fi_firsts.2.2.2, by decide +kernel, by decide +kernel, by decide +kernel⟩
theorem wk_La_138 : gf_kV "GuardFiguresLaw" 138 yy_Fi_test cc_Fi_test 9 (some .int) 2 := ⟨im_Fi_test.1, gf_mem 641 (by decide +kernel) (by decide +kernel), im_Fi_test.2.1, im_Fi_test.2.2.1, im_Fi_test.2.2.2, by decide +kernel, by decide +kernel, by decide +kernel⟩
theorem wk_Fi_255 : gf_kV "GuardFigures" 255 yy_Fi_greatestPart cc_Fi_greatestPart 7 (some .int) 3 := ⟨im_Fi_greatestPart.1, gf_mem 645 (by decide +kernel) (by decide +kernel), im_Fi_greatestPart.2.1, im_Fi_greatestPart.2.2.1, im_Fi_greatestPart.2.2.2, by decide +kernel, by decide +kernel, by decide +kernel⟩
theorem wk_La_142 : gf_kV "GuardFiguresLaw" 142 yy_Fi_duel cc_Fi_duel 3 (some .int) 2 := ⟨im_Fi_duel.1, gf_mem 652 (by decide +kernel) (by decide +kernel), im_Fi_duel.2.1, im_Fi_duel.2.2.1, im_Fi_duel.2.2.2, by decide +kernel, by decide +kernel, by decide +kernel⟩
theorem wk_Fi_259 : gf_kV "GuardFigures" 259 yy_Ou_endOfTurns cc_Ou_endOfTurns 8 (some .int) 3 := ⟨im_Ou_endOfTurns.1, gf_mem 656 (by decide +kernel) (by decide +kernel), im_Ou_endOfTurns.2.1, im_Ou_endOfTurns.2.2.1, im_Ou_endOfTurns.2.2.2, by decide +kernel, by decide +kernel, by decide +kernel⟩
theorem wk_Ou_71 : gf_kV "GuardFigures$Outlook" 71 yy_Ou_endWithReckoned cc_Ou_endWithReckoned 4 none 2 := ⟨im_Ou_endWithReckoned.1, gf_mem 661 (by decide +kernel) (by decide +kernel), im_Ou_endWithReckoned.2.1, im_Ou_endWithReckoned.2.2.1, im_Ou_endWithReckoned.2.2.2, by decide +kernel, by decide +kernel, by decide +kernel⟩
theorem wk_Ou_75 : gf_kV "GuardFigures$Outlook" 75 yy_Ou_afterBestFigure cc_Ou_afterBestFigure 11 (some .long) 5 := ⟨im_Ou_afterBestFigure.1, gf_mem 665 (by decide +kernel) (by decide +kernel), im_Ou_afterBestFigure.2.1, im_Ou_afterBestFigure.2.2.1, im_Ou_afterBestFigure.2.2.2, by decide +kernel, by decide +kernel, by decide +kernel⟩
theorem wk_La_146 : gf_kV "GuardFiguresLaw" 146 yy_Fi_odds cc_Fi_odds 5 (some .int) 2 := ⟨im_Fi_odds.1, gf_mem 672 (by decide +kernel) (by decide +kernel), im_Fi_odds.2.1, im_Fi_odds.2.2.1, im_Fi_odds.2.2.2, by decide +kernel, by decide +kernel, by decide +kernel⟩
theorem wk_Fi_262 : gf_kV "GuardFigures" 262 yy_Ou_copiesReckonedAlike cc_Ou_copiesReckonedAlike 4 (some .long) 3 := ⟨im_Ou_copiesReckonedAlike.1, gf_mem 676 (by decide +kernel) (by decide +kernel), im_Ou_copiesReckonedAlike.2.1, im_Ou_copiesReckonedAlike.2.2.1, im_Ou_copiesReckonedAlike.2.2.2, by decide +kernel, by decide +kernel, by decide +kernel⟩
theorem wk_Ou_82 : gf_kV "GuardFigures$Outlook" 82 yy_Gd_reckon cc_Gd_reckon 5 (some .int) 2 := ⟨im_Gd_reckon.1, gf_mem 680 (by decide +kernel) (by decide +kernel), im_Gd_reckon.2.1, im_Gd_reckon.2.2.1, im_Gd_reckon.2.2.2, by decide +kernel, by decide +kernel, by decide +kernel⟩
theorem wk_Ou_86 : gf_kV "GuardFigures$Outlook" 86 yy_Ou_overCopies cc_Ou_overCopies 13 (some .long) 3 := ⟨im_Ou_overCopies.1, gf_mem 681 (by decide +kernel) (by decide +kernel), im_Ou_overCopies.2.1, im_Ou_overCopies.2.2.1, im_Ou_overCopies.2.2.2, by decide +kernel, by decide +kernel, by decide +kernel⟩
theorem wk_Fi_266 : gf_kS "GuardFigures" 266 yy_Fi_power cc_Fi_power 5 (some .long) 2 := ⟨im_Fi_power.1, gf_mem 685 (by decide +kernel) (by decide +kernel), im_Fi_power.2.1, im_Fi_power.2.2.1, im_Fi_power.2.2.2⟩
theorem wk_Fi_270 : gf_kV "GuardFigures" 270 yy_Fi_tellShare cc_Fi_tellShare 7 (some .int) 1 := ⟨im_Fi_tellShare.1, gf_mem 688 (by decide +kernel) (by decide +kernel), im_Fi_tellShare.2.1, im_Fi_tellShare.2.2.1, im_Fi_tellShare.2.2.2, by decide +kernel, by decide +kernel, by decide +kernel⟩
theorem wk_Fi_307 : gf_kS "GuardFigures" 307 yy_Fi_commonDivisor cc_Fi_commonDivisor 11 (some .long) 2 := ⟨im_Fi_commonDivisor.1, gf_mem 692 (by decide +kernel) (by decide +kernel), im_Fi_commonDivisor.2.1, im_Fi_commonDivisor.2.2.1, im_Fi_commonDivisor.2.2.2⟩
theorem wk_La_150 : gf_kV "GuardFiguresLaw" 150 yy_Fi_mid cc_Fi_mid 3 (some .int) 2 := ⟨im_Fi_mid.1, gf_mem 695 (by decide +kernel) (by decide +kernel), im_Fi_mid.2.1, im_Fi_mid.2.2.1, im_Fi_mid.2.2.2, by decide +kernel, by decide +kernel, by decide +kernel⟩
theorem wk_Fi_274 : gf_kV "GuardFigures" 274 yy_Ou_reckonedOverCopies cc_Ou_reckonedOverCopies 4 (some .long) 3 := ⟨im_Ou_reckonedOverCopies.1, gf_mem 699 (by decide +kernel) (by decide +kernel), im_Ou_reckonedOverCopies.2.1, im_Ou_reckonedOverCopies.2.2.1, im_Ou_reckonedOverCopies.2.2.2, by decide +kernel, by decide +kernel, by decide +kernel⟩
theorem wk_La_154 : gf_kV "GuardFiguresLaw" 154 yy_Fi_lots cc_Fi_lots 6 (some .int) 2 := ⟨im_Fi_lots.1, gf_mem 703 (by decide +kernel) (by decide +kernel), im_Fi_lots.2.1, im_Fi_lots.2.2.1, im_Fi_lots.2.2.2, by decide +kernel, by decide +kernel, by decide +kernel⟩
theorem wk_Fi_282 : gf_kV "GuardFigures" 282 yy_Wr_doByLot cc_Wr_doByLot 5 none 1 := ⟨im_Wr_doByLot.1, gf_mem 710 (by decide +kernel) (by decide +kernel), im_Wr_doByLot.2.1, im_Wr_doByLot.2.2.1, im_Wr_doByLot.2.2.2, by decide +kernel, by decide +kernel, by decide +kernel⟩
theorem wk_Wr_31 : gf_kV "GuardFigures$Writing" 31 yy_Wr_append cc_Wr_append 2 none 1 := ⟨im_Wr_append.1, gf_mem 714 (by decide +kernel) (by decide +kernel), im_Wr_append.2.1, im_Wr_append.2.2.1, im_Wr_append.2.2.2, by decide +kernel, by decide +kernel, by decide +kernel⟩
theorem wk_Wr_35 : gf_kV "GuardFigures$Writing" 35 yy_Wr_removeLast cc_Wr_removeLast 1 (some .int) 0 := ⟨im_Wr_removeLast.1, gf_mem 715 (by decide +kernel) (by decide +kernel), im_Wr_removeLast.2.1, im_Wr_removeLast.2.2.1, im_Wr_removeLast.2.2.2, by decide +kernel, by decide +kernel, by decide +kernel⟩
theorem wk_La_158 : gf_kV "GuardFiguresLaw" 158 yy_Fi_asked cc_Fi_asked 1 (some .int) 0 := ⟨im_Fi_asked.1, gf_mem 717 (by decide +kernel) (by decide +kernel), im_Fi_asked.2.1, im_Fi_asked.2.2.1, im_Fi_asked.2.2.2, by decide +kernel, by decide +kernel, by decide +kernel⟩
theorem wk_La_162 : gf_kV "GuardFiguresLaw" 162 yy_Fi_upper cc_Fi_upper 1 (some .long) 0 := ⟨im_Fi_upper.1, gf_mem 721 (by decide +kernel) (by decide +kernel), im_Fi_upper.2.1, im_Fi_upper.2.2.1, im_Fi_upper.2.2.2, by decide +kernel, by decide +kernel, by decide +kernel⟩
theorem wk_La_167 : gf_kV "GuardFiguresLaw" 167 yy_Fi_lower cc_Fi_lower 1 (some .long) 0 := ⟨im_Fi_lower.1, gf_mem 725 (by decide +kernel) (by decide +kernel), im_Fi_lower.2.1, im_Fi_lower.2.2.1, im_Fi_lower.2.2.2, by decide +kernel, by decide +kernel, by decide +kernel⟩
theorem wk_La_171 : gf_kV "GuardFiguresLaw" 171 yy_Fi_count cc_Fi_count 2 (some .int) 1 := ⟨im_Fi_count.1, gf_mem 729 (by decide +kernel) (by decide +kernel), im_Fi_count.2.1, im_Fi_count.2.2.1, im_Fi_count.2.2.2, by decide +kernel, by decide +kernel, by decide +kernel⟩
theorem wk_Fi_288 : gf_kV "GuardFigures" 288 yy_Fi_counted cc_Fi_counted 2 (some .int) 1 := ⟨im_Fi_counted.1, gf_mem 733 (by decide +kernel) (by decide +kernel), im_Fi_counted.2.1, im_Fi_counted.2.2.1, im_Fi_counted.2.2.2, by decide +kernel, by decide +kernel, by decide +kernel⟩
theorem wk_Fi_324 : gf_kS "GuardFigures" 324 yy_Fi_asNumber cc_Fi_asNumber 4 (some .int) 2 := ⟨im_Fi_asNumber.1, gf_mem 737 (by decide +kernel) (by decide +kernel), im_Fi_asNumber.2.1, im_Fi_asNumber.2.2.1, im_Fi_asNumber.2.2.2⟩
theorem wk_Fi_327 : gf_kV "GuardFigures" 327 yy_Fi_reckonedTogether cc_Fi_reckonedTogether 3 (some .int) 0 := ⟨im_Fi_reckonedTogether.1, gf_mem 740 (by decide +kernel) (by decide +kernel), im_Fi_reckonedTogether.2.1, im_Fi_reckonedTogether.2.2.1, im_Fi_reckonedTogether.2.2.2, by decide +kernel, by decide +kernel, by decide +kernel⟩
theorem wk_Fi_330 : gf_kV "GuardFigures" 330 yy_Fi_noticingAllSlips cc_Fi_noticingAllSlips 3 (some .int) 0 := ⟨im_Fi_noticingAllSlips.1, gf_mem 744 (by decide +kernel) (by decide +kernel), im_Fi_noticingAllSlips.2.1, im_Fi_noticingAllSlips.2.2.1, im_Fi_noticingAllSlips.2.2.2, by decide +kernel, by decide +kernel, by decide +kernel⟩
theorem wk_Fi_333 : gf_kS "GuardFigures" 333 yy_Fi_howManyThere cc_Fi_howManyThere 3 (some .int) 1 := ⟨im_Fi_howManyThere.1, gf_mem 748 (by decide +kernel) (by decide +kernel), im_Fi_howManyThere.2.1, im_Fi_howManyThere.2.2.1, im_Fi_howManyThere.2.2.2⟩
theorem wk_Fi_337 : gf_kV "GuardFigures" 337 yy_Fi_keptCount cc_Fi_keptCount 3 (some .int) 0 := ⟨im_Fi_keptCount.1, gf_mem 751 (by decide +kernel) (by decide +kernel), im_Fi_keptCount.2.1, im_Fi_keptCount.2.2.1, im_Fi_keptCount.2.2.2, by decide +kernel, by decide +kernel, by decide +kernel⟩
theorem wk_Fi_340 : gf_kV "GuardFigures" 340 yy_Fi_howManyAre cc_Fi_howManyAre 4 (some .int) 1 := ⟨im_Fi_howManyAre.1, gf_mem 755 (by decide +kernel) (by decide +kernel), im_Fi_howManyAre.2.1, im_Fi_howManyAre.2.2.1, im_Fi_howManyAre.2.2.2, by decide +kernel, by decide +kernel, by decide +kernel⟩
theorem wk_La_175 : gf_kV "GuardFiguresLaw" 175 yy_Fi_finding cc_Fi_finding 1 (some .int) 0 := ⟨im_Fi_finding.1, gf_mem 759 (by decide +kernel) (by decide +kernel), im_Fi_finding.2.1, im_Fi_finding.2.2.1, im_Fi_finding.2.2.2, by decide +kernel, by decide +kernel, by decide +kernel⟩
theorem wk_La_179 : gf_kV "GuardFiguresLaw" 179 yy_Fi_findings cc_Fi_findings 2 (some .int) 1 := ⟨im_Fi_findings.1, gf_mem 763 (by decide +kernel) (by decide +kernel), im_Fi_findings.2.1, im_Fi_findings.2.2.1, im_Fi_findings.2.2.2, by decide +kernel, by decide +kernel, by decide +kernel⟩
theorem wk_La_183 : gf_kV "GuardFiguresLaw" 183 yy_Fi_digest cc_Fi_digest 5 (some .long) 0 := ⟨im_Fi_digest.1, gf_mem 767 (by decide +kernel) (by decide +kernel), im_Fi_digest.2.1, im_Fi_digest.2.2.1, im_Fi_digest.2.2.2, by decide +kernel, by decide +kernel, by decide +kernel⟩
theorem wk_Fi_298 : gf_kV "GuardFigures" 298 yy_Ro_digestOn cc_Ro_digestOn 6 (some .long) 1 := ⟨im_Ro_digestOn.1, gf_mem 773 (by decide +kernel) (by decide +kernel), im_Ro_digestOn.2.1, im_Ro_digestOn.2.2.1, im_Ro_digestOn.2.2.2, by decide +kernel, by decide +kernel, by decide +kernel⟩
theorem wk_La_12 : gf_kI "GuardFiguresLaw" 12 yy_Mo_init cc_Mo_init 2 0 := ⟨im_Mo_init.1, gf_mem 780 (by decide +kernel) (by decide +kernel), im_Mo_init.2.1, im_Mo_init.2.2, rfl, by decide +kernel, by decide +kernel, by decide +kernel⟩
theorem wk_La_17 : gf_kV "GuardFiguresLaw" 17 yy_Mo_row cc_Mo_row 4 (some .int) 2 := ⟨im_Mo_row.1, gf_mem 864 (by decide +kernel) (by decide +kernel), im_Mo_row.2.1, im_Mo_row.2.2.1, im_Mo_row.2.2.2, by decide +kernel, by decide +kernel, by decide +kernel⟩
theorem wk_Mo_73 : gf_kS "GuardFiguresModel" 73 yy_Mo_isRow cc_Mo_isRow 1 (some .boolean) 1 := ⟨im_Mo_isRow.1, gf_mem 868 (by decide +kernel) (by decide +kernel), im_Mo_isRow.2.1, im_Mo_isRow.2.2.1, im_Mo_isRow.2.2.2⟩
theorem wk_Mo_69 : gf_kS "GuardFiguresModel" 69 yy_Mo_in cc_Mo_in 6 (some .boolean) 3 := ⟨im_Mo_in.1, gf_mem 872 (by decide +kernel) (by decide +kernel), im_Mo_in.2.1, im_Mo_in.2.2.1, im_Mo_in.2.2.2⟩
theorem wk_Mo_77 : gf_kV "GuardFiguresModel" 77 yy_Mo_find cc_Mo_find 2 (some .int) 1 := ⟨im_Mo_find.1, gf_mem 875 (by decide +kernel) (by decide +kernel), im_Mo_find.2.1, im_Mo_find.2.2.1, im_Mo_find.2.2.2, by decide +kernel, by decide +kernel, by decide +kernel⟩
theorem wk_La_22 : gf_kV "GuardFiguresLaw" 22 yy_Mo_lay cc_Mo_lay 6 (some .int) 3 := ⟨im_Mo_lay.1, gf_mem 879 (by decide +kernel) (by decide +kernel), im_Mo_lay.2.1, im_Mo_lay.2.2.1, im_Mo_lay.2.2.2, by decide +kernel, by decide +kernel, by decide +kernel⟩
theorem wk_Mo_81 : gf_kV "GuardFiguresModel" 81 yy_Mo_lacksPlace cc_Mo_lacksPlace 3 (some .int) 2 := ⟨im_Mo_lacksPlace.1, gf_mem 883 (by decide +kernel) (by decide +kernel), im_Mo_lacksPlace.2.1, im_Mo_lacksPlace.2.2.1, im_Mo_lacksPlace.2.2.2, by decide +kernel, by decide +kernel, by decide +kernel⟩
theorem wk_Mo_85 : gf_kV "GuardFiguresModel" 85 yy_Mo_tells cc_Mo_tells 2 (some .int) 1 := ⟨im_Mo_tells.1, gf_mem 887 (by decide +kernel) (by decide +kernel), im_Mo_tells.2.1, im_Mo_tells.2.2.1, im_Mo_tells.2.2.2, by decide +kernel, by decide +kernel, by decide +kernel⟩
theorem wk_La_26 : gf_kV "GuardFiguresLaw" 26 yy_Mo_at cc_Mo_at 4 (some .int) 2 := ⟨im_Mo_at.1, gf_mem 891 (by decide +kernel) (by decide +kernel), im_Mo_at.2.1, im_Mo_at.2.2.1, im_Mo_at.2.2.2, by decide +kernel, by decide +kernel, by decide +kernel⟩
theorem wk_La_31 : gf_kV "GuardFiguresLaw" 31 yy_Mo_tear cc_Mo_tear 2 (some .int) 1 := ⟨im_Mo_tear.1, gf_mem 895 (by decide +kernel) (by decide +kernel), im_Mo_tear.2.1, im_Mo_tear.2.2.1, im_Mo_tear.2.2.2, by decide +kernel, by decide +kernel, by decide +kernel⟩
theorem wk_La_36 : gf_kV "GuardFiguresLaw" 36 yy_Mo_copy cc_Mo_copy 10 (some .int) 5 := ⟨im_Mo_copy.1, gf_mem 899 (by decide +kernel) (by decide +kernel), im_Mo_copy.2.1, im_Mo_copy.2.2.1, im_Mo_copy.2.2.2, by decide +kernel, by decide +kernel, by decide +kernel⟩
theorem wk_La_40 : gf_kV "GuardFiguresLaw" 40 yy_Mo_mean cc_Mo_mean 5 (some .int) 1 := ⟨im_Mo_mean.1, gf_mem 903 (by decide +kernel) (by decide +kernel), im_Mo_mean.2.1, im_Mo_mean.2.2.1, im_Mo_mean.2.2.2, by decide +kernel, by decide +kernel, by decide +kernel⟩
theorem wk_La_44 : gf_kV "GuardFiguresLaw" 44 yy_Mo_text cc_Mo_text 4 (some .int) 2 := ⟨im_Mo_text.1, gf_mem 907 (by decide +kernel) (by decide +kernel), im_Mo_text.2.1, im_Mo_text.2.2.1, im_Mo_text.2.2.2, by decide +kernel, by decide +kernel, by decide +kernel⟩
theorem wk_Mo_90 : gf_kS "GuardFiguresModel" 90 yy_Mo_isText cc_Mo_isText 1 (some .boolean) 1 := ⟨im_Mo_isText.1, gf_mem 911 (by decide +kernel) (by decide +kernel), im_Mo_isText.2.1, im_Mo_isText.2.2.1, im_Mo_isText.2.2.2⟩
theorem wk_La_48 : gf_kV "GuardFiguresLaw" 48 yy_Mo_put cc_Mo_put 5 (some .int) 3 := ⟨im_Mo_put.1, gf_mem 915 (by decide +kernel) (by decide +kernel), im_Mo_put.2.1, im_Mo_put.2.2.1, im_Mo_put.2.2.2, by decide +kernel, by decide +kernel, by decide +kernel⟩
theorem wk_La_52 : gf_kV "GuardFiguresLaw" 52 yy_Mo_fault cc_Mo_fault 2 (some .int) 1 := ⟨im_Mo_fault.1, gf_mem 919 (by decide +kernel) (by decide +kernel), im_Mo_fault.2.1, im_Mo_fault.2.2.1, im_Mo_fault.2.2.2, by decide +kernel, by decide +kernel, by decide +kernel⟩
theorem wk_Mo_126 : gf_kV "GuardFiguresModel" 126 yy_Mo_faultOf cc_Mo_faultOf 3 (some .int) 1 := ⟨im_Mo_faultOf.1, gf_mem 923 (by decide +kernel) (by decide +kernel), im_Mo_faultOf.2.1, im_Mo_faultOf.2.2.1, im_Mo_faultOf.2.2.2, by decide +kernel, by decide +kernel, by decide +kernel⟩
theorem wk_Mo_114 : gf_kV "GuardFiguresModel" 114 yy_Mo_nextLetter cc_Mo_nextLetter 1 (some .int) 0 := ⟨im_Mo_nextLetter.1, gf_mem 927 (by decide +kernel) (by decide +kernel), im_Mo_nextLetter.2.1, im_Mo_nextLetter.2.2.1, im_Mo_nextLetter.2.2.2, by decide +kernel, by decide +kernel, by decide +kernel⟩
theorem wk_Mo_99 : gf_kV "GuardFiguresModel" 99 yy_Mo_letter cc_Mo_letter 1 (some .int) 0 := ⟨im_Mo_letter.1, gf_mem 931 (by decide +kernel) (by decide +kernel), im_Mo_letter.2.1, im_Mo_letter.2.2.1, im_Mo_letter.2.2.2, by decide +kernel, by decide +kernel, by decide +kernel⟩
theorem wk_Mo_123 : gf_kV "GuardFiguresModel" 123 yy_Mo_readGuard cc_Mo_readGuard 3 (some .boolean) 0 := ⟨im_Mo_readGuard.1, gf_mem 935 (by decide +kernel) (by decide +kernel), im_Mo_readGuard.2.1, im_Mo_readGuard.2.2.1, im_Mo_readGuard.2.2.2, by decide +kernel, by decide +kernel, by decide +kernel⟩
theorem wk_Mo_117 : gf_kS "GuardFiguresModel" 117 yy_Mo_kindBy cc_Mo_kindBy 1 (some .int) 1 := ⟨im_Mo_kindBy.1, gf_mem 939 (by decide +kernel) (by decide +kernel), im_Mo_kindBy.2.1, im_Mo_kindBy.2.2.1, im_Mo_kindBy.2.2.2⟩
theorem wk_Mo_110 : gf_kV "GuardFiguresModel" 110 yy_Mo_faults cc_Mo_faults 1 (some .boolean) 0 := ⟨im_Mo_faults.1, gf_mem 942 (by decide +kernel) (by decide +kernel), im_Mo_faults.2.1, im_Mo_faults.2.2.1, im_Mo_faults.2.2.2, by decide +kernel, by decide +kernel, by decide +kernel⟩
theorem wk_Mo_120 : gf_kV "GuardFiguresModel" 120 yy_Mo_takesFigure cc_Mo_takesFigure 2 (some .boolean) 1 := ⟨im_Mo_takesFigure.1, gf_mem 946 (by decide +kernel) (by decide +kernel), im_Mo_takesFigure.2.1, im_Mo_takesFigure.2.2.1, im_Mo_takesFigure.2.2.2, by decide +kernel, by decide +kernel, by decide +kernel⟩
theorem wk_La_56 : gf_kV "GuardFiguresLaw" 56 yy_Mo_house cc_Mo_house 3 (some .int) 1 := ⟨im_Mo_house.1, gf_mem 952 (by decide +kernel) (by decide +kernel), im_Mo_house.2.1, im_Mo_house.2.2.1, im_Mo_house.2.2.2, by decide +kernel, by decide +kernel, by decide +kernel⟩
theorem wk_La_101 : gf_kV "GuardFiguresLaw" 101 yy_Mo_slips cc_Mo_slips 2 (some .int) 1 := ⟨im_Mo_slips.1, gf_mem 956 (by decide +kernel) (by decide +kernel), im_Mo_slips.2.1, im_Mo_slips.2.2.1, im_Mo_slips.2.2.2, by decide +kernel, by decide +kernel, by decide +kernel⟩
theorem wk_Mo_183 : gf_kV "GuardFiguresModel" 183 yy_Mo_isGuard cc_Mo_isGuard 2 (some .boolean) 1 := ⟨im_Mo_isGuard.1, gf_mem 960 (by decide +kernel) (by decide +kernel), im_Mo_isGuard.2.1, im_Mo_isGuard.2.2.1, im_Mo_isGuard.2.2.2, by decide +kernel, by decide +kernel, by decide +kernel⟩
theorem wk_Mo_173 : gf_kV "GuardFiguresModel" 173 yy_Mo_goSlips cc_Mo_goSlips 6 none 1 := ⟨im_Mo_goSlips.1, gf_mem 964 (by decide +kernel) (by decide +kernel), im_Mo_goSlips.2.1, im_Mo_goSlips.2.2.1, im_Mo_goSlips.2.2.2, by decide +kernel, by decide +kernel, by decide +kernel⟩
theorem wk_Mo_162 : gf_kV "GuardFiguresModel" 162 yy_Mo_now cc_Mo_now 2 (some .int) 1 := ⟨im_Mo_now.1, gf_mem 968 (by decide +kernel) (by decide +kernel), im_Mo_now.2.1, im_Mo_now.2.2.1, im_Mo_now.2.2.2, by decide +kernel, by decide +kernel, by decide +kernel⟩
theorem wk_Mo_149 : gf_kV "GuardFiguresModel" 149 yy_Mo_write cc_Mo_write 2 none 0 := ⟨im_Mo_write.1, gf_mem 972 (by decide +kernel) (by decide +kernel), im_Mo_write.2.1, im_Mo_write.2.2.1, im_Mo_write.2.2.2, by decide +kernel, by decide +kernel, by decide +kernel⟩
theorem wk_Mo_152 : gf_kV "GuardFiguresModel" 152 yy_Mo_byGuard cc_Mo_byGuard 4 (some .int) 3 := ⟨im_Mo_byGuard.1, gf_mem 976 (by decide +kernel) (by decide +kernel), im_Mo_byGuard.2.1, im_Mo_byGuard.2.2.1, im_Mo_byGuard.2.2.2, by decide +kernel, by decide +kernel, by decide +kernel⟩
theorem wk_Mo_143 : gf_kV "GuardFiguresModel" 143 yy_Mo_asKind cc_Mo_asKind 5 (some .int) 4 := ⟨im_Mo_asKind.1, gf_mem 980 (by decide +kernel) (by decide +kernel), im_Mo_asKind.2.1, im_Mo_asKind.2.2.1, im_Mo_asKind.2.2.2, by decide +kernel, by decide +kernel, by decide +kernel⟩
theorem wk_Mo_139 : gf_kS "GuardFiguresModel" 139 yy_Mo_reckons cc_Mo_reckons 5 (some .int) 5 := ⟨im_Mo_reckons.1, gf_mem 984 (by decide +kernel) (by decide +kernel), im_Mo_reckons.2.1, im_Mo_reckons.2.2.1, im_Mo_reckons.2.2.2⟩
theorem wk_Mo_131 : gf_kS "GuardFiguresModel" 131 yy_Mo_sumOf cc_Mo_sumOf 10 (some .int) 6 := ⟨im_Mo_sumOf.1, gf_mem 987 (by decide +kernel) (by decide +kernel), im_Mo_sumOf.2.1, im_Mo_sumOf.2.2.1, im_Mo_sumOf.2.2.2⟩
theorem wk_Mo_135 : gf_kS "GuardFiguresModel" 135 yy_Mo_chainOf cc_Mo_chainOf 6 (some .int) 4 := ⟨im_Mo_chainOf.1, gf_mem 990 (by decide +kernel) (by decide +kernel), im_Mo_chainOf.2.1, im_Mo_chainOf.2.2.1, im_Mo_chainOf.2.2.2⟩
theorem wk_Mo_165 : gf_kV "GuardFiguresModel" 165 yy_Mo_unnoticed cc_Mo_unnoticed 4 none 3 := ⟨im_Mo_unnoticed.1, gf_mem 993 (by decide +kernel) (by decide +kernel), im_Mo_unnoticed.2.1, im_Mo_unnoticed.2.2.1, im_Mo_unnoticed.2.2.2, by decide +kernel, by decide +kernel, by decide +kernel⟩
theorem wk_Mo_186 : gf_kV "GuardFiguresModel" 186 yy_Mo_tellUnseen cc_Mo_tellUnseen 1 (some .int) 0 := ⟨im_Mo_tellUnseen.1, gf_mem 997 (by decide +kernel) (by decide +kernel), im_Mo_tellUnseen.2.1, im_Mo_tellUnseen.2.2.1, im_Mo_tellUnseen.2.2.2, by decide +kernel, by decide +kernel, by decide +kernel⟩
theorem wk_La_105 : gf_kV "GuardFiguresLaw" 105 yy_Mo_swaps cc_Mo_swaps 2 (some .int) 1 := ⟨im_Mo_swaps.1, gf_mem 1001 (by decide +kernel) (by decide +kernel), im_Mo_swaps.2.1, im_Mo_swaps.2.2.1, im_Mo_swaps.2.2.2, by decide +kernel, by decide +kernel, by decide +kernel⟩
theorem wk_Mo_180 : gf_kV "GuardFiguresModel" 180 yy_Mo_goSwaps cc_Mo_goSwaps 5 none 2 := ⟨im_Mo_goSwaps.1, gf_mem 1005 (by decide +kernel) (by decide +kernel), im_Mo_goSwaps.2.1, im_Mo_goSwaps.2.2.1, im_Mo_goSwaps.2.2.2, by decide +kernel, by decide +kernel, by decide +kernel⟩
theorem wk_Mo_169 : gf_kV "GuardFiguresModel" 169 yy_Mo_exchange cc_Mo_exchange 4 none 2 := ⟨im_Mo_exchange.1, gf_mem 1009 (by decide +kernel) (by decide +kernel), im_Mo_exchange.2.1, im_Mo_exchange.2.2.1, im_Mo_exchange.2.2.2, by decide +kernel, by decide +kernel, by decide +kernel⟩
theorem wk_La_109 : gf_kV "GuardFiguresLaw" 109 yy_Mo_jumps cc_Mo_jumps 2 (some .int) 1 := ⟨im_Mo_jumps.1, gf_mem 1013 (by decide +kernel) (by decide +kernel), im_Mo_jumps.2.1, im_Mo_jumps.2.2.1, im_Mo_jumps.2.2.2, by decide +kernel, by decide +kernel, by decide +kernel⟩
theorem wk_La_60 : gf_kV "GuardFiguresLaw" 60 yy_Mo_guard cc_Mo_guard 3 (some .int) 2 := ⟨im_Mo_guard.1, gf_mem 1017 (by decide +kernel) (by decide +kernel), im_Mo_guard.2.1, im_Mo_guard.2.2.1, im_Mo_guard.2.2.2, by decide +kernel, by decide +kernel, by decide +kernel⟩
theorem wk_Mo_191 : gf_kV "GuardFiguresModel" 191 yy_Mo_toldOf cc_Mo_toldOf 3 (some .int) 2 := ⟨im_Mo_toldOf.1, gf_mem 1022 (by decide +kernel) (by decide +kernel), im_Mo_toldOf.2.1, im_Mo_toldOf.2.2.1, im_Mo_toldOf.2.2.2, by decide +kernel, by decide +kernel, by decide +kernel⟩
theorem wk_Mo_177 : gf_kV "GuardFiguresModel" 177 yy_Mo_slipsOf cc_Mo_slipsOf 2 (some .int) 1 := ⟨im_Mo_slipsOf.1, gf_mem 1026 (by decide +kernel) (by decide +kernel), im_Mo_slipsOf.2.1, im_Mo_slipsOf.2.2.1, im_Mo_slipsOf.2.2.2, by decide +kernel, by decide +kernel, by decide +kernel⟩
theorem wk_La_64 : gf_kV "GuardFiguresLaw" 64 yy_Mo_mark cc_Mo_mark 5 (some .int) 2 := ⟨im_Mo_mark.1, gf_mem 1030 (by decide +kernel) (by decide +kernel), im_Mo_mark.2.1, im_Mo_mark.2.2.1, im_Mo_mark.2.2.2, by decide +kernel, by decide +kernel, by decide +kernel⟩
theorem wk_Mo_194 : gf_kS "GuardFiguresModel" 194 yy_Mo_isOf cc_Mo_isOf 2 (some .boolean) 2 := ⟨im_Mo_isOf.1, gf_mem 1034 (by decide +kernel) (by decide +kernel), im_Mo_isOf.2.1, im_Mo_isOf.2.2.1, im_Mo_isOf.2.2.2⟩
theorem wk_La_68 : gf_kV "GuardFiguresLaw" 68 yy_Mo_figure cc_Mo_figure 2 (some .int) 1 := ⟨im_Mo_figure.1, gf_mem 1037 (by decide +kernel) (by decide +kernel), im_Mo_figure.2.1, im_Mo_figure.2.2.1, im_Mo_figure.2.2.2, by decide +kernel, by decide +kernel, by decide +kernel⟩
theorem wk_La_72 : gf_kV "GuardFiguresLaw" 72 yy_Mo_add cc_Mo_add 2 (some .int) 1 := ⟨im_Mo_add.1, gf_mem 1041 (by decide +kernel) (by decide +kernel), im_Mo_add.2.1, im_Mo_add.2.2.1, im_Mo_add.2.2.2, by decide +kernel, by decide +kernel, by decide +kernel⟩
theorem wk_Mo_198 : gf_kS "GuardFiguresModel" 198 yy_Mo_isFigure cc_Mo_isFigure 1 (some .boolean) 1 := ⟨im_Mo_isFigure.1, gf_mem 1045 (by decide +kernel) (by decide +kernel), im_Mo_isFigure.2.1, im_Mo_isFigure.2.2.1, im_Mo_isFigure.2.2.2⟩
theorem wk_Mo_201 : gf_kV "GuardFiguresModel" 201 yy_Mo_note cc_Mo_note 3 none 0 := ⟨im_Mo_note.1, gf_mem 1049 (by decide +kernel) (by decide +kernel), im_Mo_note.2.1, im_Mo_note.2.2.1, im_Mo_note.2.2.2, by decide +kernel, by decide +kernel, by decide +kernel⟩
theorem wk_Mo_204 : gf_kV "GuardFiguresModel" 204 yy_Mo_append cc_Mo_append 2 none 1 := ⟨im_Mo_append.1, gf_mem 1053 (by decide +kernel) (by decide +kernel), im_Mo_append.2.1, im_Mo_append.2.2.1, im_Mo_append.2.2.2, by decide +kernel, by decide +kernel, by decide +kernel⟩
theorem wk_La_77 : gf_kV "GuardFiguresLaw" 77 yy_Mo_drop cc_Mo_drop 2 (some .int) 0 := ⟨im_Mo_drop.1, gf_mem 1057 (by decide +kernel) (by decide +kernel), im_Mo_drop.2.1, im_Mo_drop.2.2.1, im_Mo_drop.2.2.2, by decide +kernel, by decide +kernel, by decide +kernel⟩
theorem wk_Mo_207 : gf_kV "GuardFiguresModel" 207 yy_Mo_takeOff cc_Mo_takeOff 1 none 0 := ⟨im_Mo_takeOff.1, gf_mem 1061 (by decide +kernel) (by decide +kernel), im_Mo_takeOff.2.1, im_Mo_takeOff.2.2.1, im_Mo_takeOff.2.2.2, by decide +kernel, by decide +kernel, by decide +kernel⟩
theorem wk_La_81 : gf_kV "GuardFiguresLaw" 81 yy_Mo_change cc_Mo_change 4 (some .int) 2 := ⟨im_Mo_change.1, gf_mem 1065 (by decide +kernel) (by decide +kernel), im_Mo_change.2.1, im_Mo_change.2.2.1, im_Mo_change.2.2.2, by decide +kernel, by decide +kernel, by decide +kernel⟩
theorem wk_La_85 : gf_kV "GuardFiguresLaw" 85 yy_Mo_swap cc_Mo_swap 3 (some .int) 1 := ⟨im_Mo_swap.1, gf_mem 1069 (by decide +kernel) (by decide +kernel), im_Mo_swap.2.1, im_Mo_swap.2.2.1, im_Mo_swap.2.2.2, by decide +kernel, by decide +kernel, by decide +kernel⟩
theorem wk_La_89 : gf_kV "GuardFiguresLaw" 89 yy_Mo_undo cc_Mo_undo 5 (some .int) 1 := ⟨im_Mo_undo.1, gf_mem 1073 (by decide +kernel) (by decide +kernel), im_Mo_undo.2.1, im_Mo_undo.2.2.1, im_Mo_undo.2.2.2, by decide +kernel, by decide +kernel, by decide +kernel⟩
theorem wk_La_93 : gf_kV "GuardFiguresLaw" 93 yy_Mo_keep cc_Mo_keep 3 (some .int) 1 := ⟨im_Mo_keep.1, gf_mem 1077 (by decide +kernel) (by decide +kernel), im_Mo_keep.2.1, im_Mo_keep.2.2.1, im_Mo_keep.2.2.2, by decide +kernel, by decide +kernel, by decide +kernel⟩
theorem wk_La_97 : gf_kV "GuardFiguresLaw" 97 yy_Mo_on cc_Mo_on 3 (some .int) 1 := ⟨im_Mo_on.1, gf_mem 1082 (by decide +kernel) (by decide +kernel), im_Mo_on.2.1, im_Mo_on.2.2.1, im_Mo_on.2.2.2, by decide +kernel, by decide +kernel, by decide +kernel⟩
theorem wk_La_113 : gf_kV "GuardFiguresLaw" 113 yy_Mo_best cc_Mo_best 5 (some .int) 0 := ⟨im_Mo_best.1, gf_mem 1086 (by decide +kernel) (by decide +kernel), im_Mo_best.2.1, im_Mo_best.2.2.1, im_Mo_best.2.2.2, by decide +kernel, by decide +kernel, by decide +kernel⟩
theorem wk_Mo_212 : gf_kV "GuardFiguresModel" 212 yy_Mo_allUnseen cc_Mo_allUnseen 3 (some .int) 1 := ⟨im_Mo_allUnseen.1, gf_mem 1090 (by decide +kernel) (by decide +kernel), im_Mo_allUnseen.2.1, im_Mo_allUnseen.2.2.1, im_Mo_allUnseen.2.2.2, by decide +kernel, by decide +kernel, by decide +kernel⟩
theorem wk_La_117 : gf_kV "GuardFiguresLaw" 117 yy_Mo_cover cc_Mo_cover 3 (some .int) 0 := ⟨im_Mo_cover.1, gf_mem 1094 (by decide +kernel) (by decide +kernel), im_Mo_cover.2.1, im_Mo_cover.2.2.1, im_Mo_cover.2.2.2, by decide +kernel, by decide +kernel, by decide +kernel⟩
theorem wk_Mo_221 : gf_kV "GuardFiguresModel" 221 yy_Mo_seeAll cc_Mo_seeAll 4 none 0 := ⟨im_Mo_seeAll.1, gf_mem 1098 (by decide +kernel) (by decide +kernel), im_Mo_seeAll.2.1, im_Mo_seeAll.2.2.1, im_Mo_seeAll.2.2.2, by decide +kernel, by decide +kernel, by decide +kernel⟩
theorem wk_Mo_218 : gf_kV "GuardFiguresModel" 218 yy_Mo_seeThing cc_Mo_seeThing 3 none 0 := ⟨im_Mo_seeThing.1, gf_mem 1102 (by decide +kernel) (by decide +kernel), im_Mo_seeThing.2.1, im_Mo_seeThing.2.2.1, im_Mo_seeThing.2.2.2, by decide +kernel, by decide +kernel, by decide +kernel⟩
theorem wk_Mo_224 : gf_kS "GuardFiguresModel" 224 yy_Mo_ones cc_Mo_ones 3 (some .int) 1 := ⟨im_Mo_ones.1, gf_mem 1106 (by decide +kernel) (by decide +kernel), im_Mo_ones.2.1, im_Mo_ones.2.2.1, im_Mo_ones.2.2.2⟩
theorem wk_Mo_227 : gf_kV "GuardFiguresModel" 227 yy_Mo_isCover cc_Mo_isCover 3 (some .boolean) 1 := ⟨im_Mo_isCover.1, gf_mem 1109 (by decide +kernel) (by decide +kernel), im_Mo_isCover.2.1, im_Mo_isCover.2.2.1, im_Mo_isCover.2.2.2, by decide +kernel, by decide +kernel, by decide +kernel⟩
theorem wk_La_121 : gf_kV "GuardFiguresLaw" 121 yy_Mo_next cc_Mo_next 5 (some .int) 2 := ⟨im_Mo_next.1, gf_mem 1113 (by decide +kernel) (by decide +kernel), im_Mo_next.2.1, im_Mo_next.2.2.1, im_Mo_next.2.2.2, by decide +kernel, by decide +kernel, by decide +kernel⟩
theorem wk_La_125 : gf_kV "GuardFiguresLaw" 125 yy_Mo_near cc_Mo_near 5 (some .int) 2 := ⟨im_Mo_near.1, gf_mem 1118 (by decide +kernel) (by decide +kernel), im_Mo_near.2.1, im_Mo_near.2.2.1, im_Mo_near.2.2.2, by decide +kernel, by decide +kernel, by decide +kernel⟩
theorem wk_Mo_232 : gf_kS "GuardFiguresModel" 232 yy_Mo_asNumber cc_Mo_asNumber 4 (some .int) 2 := ⟨im_Mo_asNumber.1, gf_mem 1122 (by decide +kernel) (by decide +kernel), im_Mo_asNumber.2.1, im_Mo_asNumber.2.2.1, im_Mo_asNumber.2.2.2⟩
theorem wk_Mo_236 : gf_kV "GuardFiguresModel" 236 yy_Mo_leastWith cc_Mo_leastWith 12 (some .int) 3 := ⟨im_Mo_leastWith.1, gf_mem 1125 (by decide +kernel) (by decide +kernel), im_Mo_leastWith.2.1, im_Mo_leastWith.2.2.1, im_Mo_leastWith.2.2.2, by decide +kernel, by decide +kernel, by decide +kernel⟩
theorem wk_La_129 : gf_kV "GuardFiguresLaw" 129 yy_Mo_fills cc_Mo_fills 12 (some .int) 3 := ⟨im_Mo_fills.1, gf_mem 1129 (by decide +kernel) (by decide +kernel), im_Mo_fills.2.1, im_Mo_fills.2.2.1, im_Mo_fills.2.2.2, by decide +kernel, by decide +kernel, by decide +kernel⟩
theorem wk_La_133 : gf_kV "GuardFiguresLaw" 133 yy_Mo_kinds cc_Mo_kinds 4 (some .int) 2 := ⟨im_Mo_kinds.1, gf_mem 1135 (by decide +kernel) (by decide +kernel), im_Mo_kinds.2.1, im_Mo_kinds.2.2.1, im_Mo_kinds.2.2.2, by decide +kernel, by decide +kernel, by decide +kernel⟩
theorem wk_Mo_244 : gf_kV "GuardFiguresModel" 244 yy_Mo_lacksTold cc_Mo_lacksTold 4 (some .int) 1 := ⟨im_Mo_lacksTold.1, gf_mem 1139 (by decide +kernel) (by decide +kernel), im_Mo_lacksTold.2.1, im_Mo_lacksTold.2.2.1, im_Mo_lacksTold.2.2.2, by decide +kernel, by decide +kernel, by decide +kernel⟩
theorem wk_Mo_247 : gf_kV "GuardFiguresModel" 247 yy_Mo_kindSet cc_Mo_kindSet 6 (some .int) 2 := ⟨im_Mo_kindSet.1, gf_mem 1143 (by decide +kernel) (by decide +kernel), im_Mo_kindSet.2.1, im_Mo_kindSet.2.2.1, im_Mo_kindSet.2.2.2, by decide +kernel, by decide +kernel, by decide +kernel⟩
theorem wk_La_137 : gf_kV "GuardFiguresLaw" 137 yy_Mo_firsts cc_Mo_firsts 7 (some .int) 2 := ⟨im_Mo_firsts.1, gf_mem 1147 (by decide +kernel) (by decide +kernel), im_Mo_firsts.2.1, im_Mo_firsts.2.2.1, im_Mo_firsts.2.2.2, by decide +kernel, by decide +kernel, by decide +kernel⟩
theorem wk_La_141 : gf_kV "GuardFiguresLaw" 141 yy_Mo_test cc_Mo_test 9 (some .int) 2 := ⟨im_Mo_test.1, gf_mem 1151 (by decide +kernel) (by decide +kernel), im_Mo_test.2.1, im_Mo_test.2.2.1, im_Mo_test.2.2.2, by decide +kernel, by decide +kernel, by decide +kernel⟩
theorem wk_Mo_250 : gf_kV "GuardFiguresModel" 250 yy_Mo_partBy cc_Mo_partBy 8 (some .int) 3 := ⟨im_Mo_partBy.1, gf_mem 1155 (by decide +kernel) (by decide +kernel), im_Mo_partBy.2.1, im_Mo_partBy.2.2.1, im_Mo_partBy.2.2.2, by decide +kernel, by decide +kernel, by decide +kernel⟩
theorem wk_La_145 : gf_kV "GuardFiguresLaw" 145 yy_Mo_duel cc_Mo_duel 11 (some .int) 2 := ⟨im_Mo_duel.1, gf_mem 1159 (by decide +kernel) (by decide +kernel), im_Mo_duel.2.1, im_Mo_duel.2.2.1, im_Mo_duel.2.2.2, by decide +kernel, by decide +kernel, by decide +kernel⟩
theorem wk_La_149 : gf_kV "GuardFiguresLaw" 149 yy_Mo_odds cc_Mo_odds 3 (some .int) 2 := ⟨im_Mo_odds.1, gf_mem 1163 (by decide +kernel) (by decide +kernel), im_Mo_odds.2.1, im_Mo_odds.2.2.1, im_Mo_odds.2.2.2, by decide +kernel, by decide +kernel, by decide +kernel⟩
theorem wk_Mo_262 : gf_kV "GuardFiguresModel" 262 yy_Mo_weigh cc_Mo_weigh 14 (some .int) 3 := ⟨im_Mo_weigh.1, gf_mem 1167 (by decide +kernel) (by decide +kernel), im_Mo_weigh.2.1, im_Mo_weigh.2.2.1, im_Mo_weigh.2.2.2, by decide +kernel, by decide +kernel, by decide +kernel⟩
theorem wk_Mo_258 : gf_kV "GuardFiguresModel" 258 yy_Mo_tellShare cc_Mo_tellShare 11 (some .int) 2 := ⟨im_Mo_tellShare.1, gf_mem 1172 (by decide +kernel) (by decide +kernel), im_Mo_tellShare.2.1, im_Mo_tellShare.2.2.1, im_Mo_tellShare.2.2.2, by decide +kernel, by decide +kernel, by decide +kernel⟩
theorem wk_La_153 : gf_kV "GuardFiguresLaw" 153 yy_Mo_mid cc_Mo_mid 3 (some .int) 2 := ⟨im_Mo_mid.1, gf_mem 1176 (by decide +kernel) (by decide +kernel), im_Mo_mid.2.1, im_Mo_mid.2.2.1, im_Mo_mid.2.2.2, by decide +kernel, by decide +kernel, by decide +kernel⟩
theorem wk_La_157 : gf_kV "GuardFiguresLaw" 157 yy_Mo_lots cc_Mo_lots 9 (some .int) 2 := ⟨im_Mo_lots.1, gf_mem 1180 (by decide +kernel) (by decide +kernel), im_Mo_lots.2.1, im_Mo_lots.2.2.1, im_Mo_lots.2.2.2, by decide +kernel, by decide +kernel, by decide +kernel⟩
theorem wk_La_161 : gf_kV "GuardFiguresLaw" 161 yy_Mo_asked cc_Mo_asked 1 (some .int) 0 := ⟨im_Mo_asked.1, gf_mem 1189 (by decide +kernel) (by decide +kernel), im_Mo_asked.2.1, im_Mo_asked.2.2.1, im_Mo_asked.2.2.2, by decide +kernel, by decide +kernel, by decide +kernel⟩
theorem wk_La_166 : gf_kV "GuardFiguresLaw" 166 yy_Mo_upper cc_Mo_upper 1 (some .long) 0 := ⟨im_Mo_upper.1, gf_mem 1193 (by decide +kernel) (by decide +kernel), im_Mo_upper.2.1, im_Mo_upper.2.2.1, im_Mo_upper.2.2.2, by decide +kernel, by decide +kernel, by decide +kernel⟩
theorem wk_La_170 : gf_kV "GuardFiguresLaw" 170 yy_Mo_lower cc_Mo_lower 1 (some .long) 0 := ⟨im_Mo_lower.1, gf_mem 1197 (by decide +kernel) (by decide +kernel), im_Mo_lower.2.1, im_Mo_lower.2.2.1, im_Mo_lower.2.2.2, by decide +kernel, by decide +kernel, by decide +kernel⟩
theorem wk_La_174 : gf_kV "GuardFiguresLaw" 174 yy_Mo_count cc_Mo_count 2 (some .int) 1 := ⟨im_Mo_count.1, gf_mem 1201 (by decide +kernel) (by decide +kernel), im_Mo_count.2.1, im_Mo_count.2.2.1, im_Mo_count.2.2.2, by decide +kernel, by decide +kernel, by decide +kernel⟩
theorem wk_Mo_276 : gf_kV "GuardFiguresModel" 276 yy_Mo_allReckon cc_Mo_allReckon 3 (some .int) 0 := ⟨im_Mo_allReckon.1, gf_mem 1205 (by decide +kernel) (by decide +kernel), im_Mo_allReckon.2.1, im_Mo_allReckon.2.2.1, im_Mo_allReckon.2.2.2, by decide +kernel, by decide +kernel, by decide +kernel⟩
theorem wk_Mo_279 : gf_kV "GuardFiguresModel" 279 yy_Mo_allNotice cc_Mo_allNotice 3 (some .int) 0 := ⟨im_Mo_allNotice.1, gf_mem 1209 (by decide +kernel) (by decide +kernel), im_Mo_allNotice.2.1, im_Mo_allNotice.2.2.1, im_Mo_allNotice.2.2.2, by decide +kernel, by decide +kernel, by decide +kernel⟩
theorem wk_Mo_282 : gf_kS "GuardFiguresModel" 282 yy_Mo_thereOf cc_Mo_thereOf 3 (some .int) 1 := ⟨im_Mo_thereOf.1, gf_mem 1213 (by decide +kernel) (by decide +kernel), im_Mo_thereOf.2.1, im_Mo_thereOf.2.2.1, im_Mo_thereOf.2.2.2⟩
theorem wk_Mo_286 : gf_kV "GuardFiguresModel" 286 yy_Mo_ofKind cc_Mo_ofKind 4 (some .int) 1 := ⟨im_Mo_ofKind.1, gf_mem 1216 (by decide +kernel) (by decide +kernel), im_Mo_ofKind.2.1, im_Mo_ofKind.2.2.1, im_Mo_ofKind.2.2.2, by decide +kernel, by decide +kernel, by decide +kernel⟩
theorem wk_La_178 : gf_kV "GuardFiguresLaw" 178 yy_Mo_finding cc_Mo_finding 1 (some .int) 0 := ⟨im_Mo_finding.1, gf_mem 1220 (by decide +kernel) (by decide +kernel), im_Mo_finding.2.1, im_Mo_finding.2.2.1, im_Mo_finding.2.2.2, by decide +kernel, by decide +kernel, by decide +kernel⟩
theorem wk_La_182 : gf_kV "GuardFiguresLaw" 182 yy_Mo_findings cc_Mo_findings 2 (some .int) 1 := ⟨im_Mo_findings.1, gf_mem 1224 (by decide +kernel) (by decide +kernel), im_Mo_findings.2.1, im_Mo_findings.2.2.1, im_Mo_findings.2.2.2, by decide +kernel, by decide +kernel, by decide +kernel⟩
theorem wk_La_186 : gf_kV "GuardFiguresLaw" 186 yy_Mo_digest cc_Mo_digest 5 (some .long) 0 := ⟨im_Mo_digest.1, gf_mem 1228 (by decide +kernel) (by decide +kernel), im_Mo_digest.2.1, im_Mo_digest.2.2.1, im_Mo_digest.2.2.2, by decide +kernel, by decide +kernel, by decide +kernel⟩
theorem wk_Mo_293 : gf_kV "GuardFiguresModel" 293 yy_Mo_count cc_Mo_count 2 (some .int) 1 := ⟨im_Mo_count.1, gf_mem 1234 (by decide +kernel) (by decide +kernel), im_Mo_count.2.1, im_Mo_count.2.2.1, im_Mo_count.2.2.2, by decide +kernel, by decide +kernel, by decide +kernel⟩
theorem fl_Ro_7 : gf_fl "GuardFigures$Row" 7 0 gf_T3 2 := ⟨by decide, gf_mem 98 (by decide +kernel) (by decide +kernel)⟩
theorem fl_Re_27 : gf_fl "GuardFigures$Reader" 27 0 gf_T3 2 := ⟨by decide, gf_mem 99 (by decide +kernel) (by decide +kernel)⟩
theorem fl_Fi_97 : gf_fl "GuardFigures" 97 0 gf_T3 2 := ⟨by decide, gf_mem 100 (by decide +kernel) (by decide +kernel)⟩
theorem fl_Ou_65 : gf_fl "GuardFigures$Outlook" 65 0 gf_T3 2 := ⟨by decide, gf_mem 101 (by decide +kernel) (by decide +kernel)⟩
theorem fl_Ro_13 : gf_fl "GuardFigures$Row" 13 1 gf_T3 2 := ⟨by decide, gf_mem 102 (by decide +kernel) (by decide +kernel)⟩
theorem fl_Re_22 : gf_fl "GuardFigures$Reader" 22 1 gf_T3 2 := ⟨by decide, gf_mem 103 (by decide +kernel) (by decide +kernel)⟩
theorem fl_Ou_58 : gf_fl "GuardFigures$Outlook" 58 1 gf_T3 2 := ⟨by decide, gf_mem 104 (by decide +kernel) (by decide +kernel)⟩
theorem fl_Fi_107 : gf_fl "GuardFigures" 107 1 gf_T3 2 := ⟨by decide, gf_mem 105 (by decide +kernel) (by decide +kernel)⟩
theorem fl_Gd_9 : gf_fl "GuardFigures$Guard" 9 0 gf_T0 3 := ⟨by decide, gf_mem 119 (by decide +kernel) (by decide +kernel)⟩
theorem fl_Re_43 : gf_fl "GuardFigures$Reader" 43 0 gf_T0 3 := ⟨by decide, gf_mem 120 (by decide +kernel) (by decide +kernel)⟩
theorem fl_Fi_156 : gf_fl "GuardFigures" 156 0 gf_T0 3 := ⟨by decide, gf_mem 121 (by decide +kernel) (by decide +kernel)⟩
theorem fl_Gd_15 : gf_fl "GuardFigures$Guard" 15 1 gf_T0 3 := ⟨by decide, gf_mem 122 (by decide +kernel) (by decide +kernel)⟩
theorem fl_Re_46 : gf_fl "GuardFigures$Reader" 46 1 gf_T0 3 := ⟨by decide, gf_mem 123 (by decide +kernel) (by decide +kernel)⟩
theorem fl_Fi_248 : gf_fl "GuardFigures" 248 1 gf_T0 3 := ⟨by decide, gf_mem 124 (by decide +kernel) (by decide +kernel)⟩
theorem fl_Gd_18 : gf_fl "GuardFigures$Guard" 18 2 gf_T0 3 := ⟨by decide, gf_mem 125 (by decide +kernel) (by decide +kernel)⟩
theorem fl_Re_49 : gf_fl "GuardFigures$Reader" 49 2 gf_T0 3 := ⟨by decide, gf_mem 126 (by decide +kernel) (by decide +kernel)⟩
theorem fl_Fi_321 : gf_fl "GuardFigures" 321 2 gf_T0 3 := ⟨by decide, gf_mem 127 (by decide +kernel) (by decide +kernel)⟩
theorem fl_Wr_9 : gf_fl "GuardFigures$Writing" 9 0 gf_T5 5 := ⟨by decide, gf_mem 142 (by decide +kernel) (by decide +kernel)⟩
theorem fl_Wa_31 : gf_fl "GuardFigures$Watch" 31 0 gf_T5 5 := ⟨by decide, gf_mem 143 (by decide +kernel) (by decide +kernel)⟩
theorem fl_Ou_54 : gf_fl "GuardFigures$Outlook" 54 0 gf_T5 5 := ⟨by decide, gf_mem 144 (by decide +kernel) (by decide +kernel)⟩
theorem fl_Fi_169 : gf_fl "GuardFigures" 169 0 gf_T5 5 := ⟨by decide, gf_mem 145 (by decide +kernel) (by decide +kernel)⟩
theorem fl_Ou_15 : gf_fl "GuardFigures$Outlook" 15 1 gf_T5 5 := ⟨by decide, gf_mem 146 (by decide +kernel) (by decide +kernel)⟩
theorem fl_Wr_18 : gf_fl "GuardFigures$Writing" 18 1 gf_T5 5 := ⟨by decide, gf_mem 147 (by decide +kernel) (by decide +kernel)⟩
theorem fl_Wa_36 : gf_fl "GuardFigures$Watch" 36 1 gf_T5 5 := ⟨by decide, gf_mem 148 (by decide +kernel) (by decide +kernel)⟩
theorem fl_Fi_168 : gf_fl "GuardFigures" 168 1 gf_T5 5 := ⟨by decide, gf_mem 149 (by decide +kernel) (by decide +kernel)⟩
theorem fl_Wr_22 : gf_fl "GuardFigures$Writing" 22 2 gf_T5 5 := ⟨by decide, gf_mem 150 (by decide +kernel) (by decide +kernel)⟩
theorem fl_Fi_172 : gf_fl "GuardFigures" 172 2 gf_T5 5 := ⟨by decide, gf_mem 151 (by decide +kernel) (by decide +kernel)⟩
theorem fl_Wr_15 : gf_fl "GuardFigures$Writing" 15 3 gf_T5 5 := ⟨by decide, gf_mem 152 (by decide +kernel) (by decide +kernel)⟩
theorem fl_Fi_140 : gf_fl "GuardFigures" 140 4 gf_T5 5 := ⟨by decide, gf_mem 153 (by decide +kernel) (by decide +kernel)⟩
theorem fl_Re_11 : gf_fl "GuardFigures$Reader" 11 0 gf_T2 2 := ⟨by decide, gf_mem 173 (by decide +kernel) (by decide +kernel)⟩
theorem fl_Fi_132 : gf_fl "GuardFigures" 132 0 gf_T2 2 := ⟨by decide, gf_mem 174 (by decide +kernel) (by decide +kernel)⟩
theorem fl_Re_18 : gf_fl "GuardFigures$Reader" 18 1 gf_T2 2 := ⟨by decide, gf_mem 175 (by decide +kernel) (by decide +kernel)⟩
theorem fl_Fi_128 : gf_fl "GuardFigures" 128 1 gf_T2 2 := ⟨by decide, gf_mem 176 (by decide +kernel) (by decide +kernel)⟩
theorem fl_Wa_11 : gf_fl "GuardFigures$Watch" 11 0 gf_T4 6 := ⟨by decide, gf_mem 188 (by decide +kernel) (by decide +kernel)⟩
theorem fl_Wa_15 : gf_fl "GuardFigures$Watch" 15 1 gf_T4 6 := ⟨by decide, gf_mem 189 (by decide +kernel) (by decide +kernel)⟩
theorem fl_Wa_46 : gf_fl "GuardFigures$Watch" 46 2 gf_T4 6 := ⟨by decide, gf_mem 190 (by decide +kernel) (by decide +kernel)⟩
theorem fl_Fi_216 : gf_fl "GuardFigures" 216 2 gf_T4 6 := ⟨by decide, gf_mem 191 (by decide +kernel) (by decide +kernel)⟩
theorem fl_Wa_18 : gf_fl "GuardFigures$Watch" 18 3 gf_T4 6 := ⟨by decide, gf_mem 192 (by decide +kernel) (by decide +kernel)⟩
theorem fl_Wa_21 : gf_fl "GuardFigures$Watch" 21 4 gf_T4 6 := ⟨by decide, gf_mem 193 (by decide +kernel) (by decide +kernel)⟩
theorem fl_Wa_24 : gf_fl "GuardFigures$Watch" 24 5 gf_T4 6 := ⟨by decide, gf_mem 194 (by decide +kernel) (by decide +kernel)⟩
theorem fl_Ou_11 : gf_fl "GuardFigures$Outlook" 11 0 gf_T1 2 := ⟨by decide, gf_mem 214 (by decide +kernel) (by decide +kernel)⟩
theorem fl_Ou_41 : gf_fl "GuardFigures$Outlook" 41 1 gf_T1 2 := ⟨by decide, gf_mem 215 (by decide +kernel) (by decide +kernel)⟩
theorem fl_Fi_230 : gf_fl "GuardFigures" 230 1 gf_T1 2 := ⟨by decide, gf_mem 216 (by decide +kernel) (by decide +kernel)⟩
theorem fl_Fi_11 : gf_fl "GuardFigures" 11 0 gf_T6 17 := ⟨by decide, gf_mem 223 (by decide +kernel) (by decide +kernel)⟩
theorem fl_Fi_18 : gf_fl "GuardFigures" 18 1 gf_T6 17 := ⟨by decide, gf_mem 224 (by decide +kernel) (by decide +kernel)⟩
theorem fl_Fi_23 : gf_fl "GuardFigures" 23 2 gf_T6 17 := ⟨by decide, gf_mem 225 (by decide +kernel) (by decide +kernel)⟩
theorem fl_Fi_131 : gf_fl "GuardFigures" 131 3 gf_T6 17 := ⟨by decide, gf_mem 226 (by decide +kernel) (by decide +kernel)⟩
theorem fl_Fi_35 : gf_fl "GuardFigures" 35 4 gf_T6 17 := ⟨by decide, gf_mem 227 (by decide +kernel) (by decide +kernel)⟩
theorem fl_Fi_30 : gf_fl "GuardFigures" 30 5 gf_T6 17 := ⟨by decide, gf_mem 228 (by decide +kernel) (by decide +kernel)⟩
theorem fl_Fi_42 : gf_fl "GuardFigures" 42 6 gf_T6 17 := ⟨by decide, gf_mem 229 (by decide +kernel) (by decide +kernel)⟩
theorem fl_Fi_49 : gf_fl "GuardFigures" 49 7 gf_T6 17 := ⟨by decide, gf_mem 230 (by decide +kernel) (by decide +kernel)⟩
theorem fl_Fi_56 : gf_fl "GuardFigures" 56 8 gf_T6 17 := ⟨by decide, gf_mem 231 (by decide +kernel) (by decide +kernel)⟩
theorem fl_Fi_60 : gf_fl "GuardFigures" 60 9 gf_T6 17 := ⟨by decide, gf_mem 232 (by decide +kernel) (by decide +kernel)⟩
theorem fl_Fi_64 : gf_fl "GuardFigures" 64 10 gf_T6 17 := ⟨by decide, gf_mem 233 (by decide +kernel) (by decide +kernel)⟩
theorem fl_Fi_68 : gf_fl "GuardFigures" 68 11 gf_T6 17 := ⟨by decide, gf_mem 234 (by decide +kernel) (by decide +kernel)⟩
theorem fl_Fi_205 : gf_fl "GuardFigures" 205 12 gf_T6 17 := ⟨by decide, gf_mem 235 (by decide +kernel) (by decide +kernel)⟩
theorem fl_Fi_285 : gf_fl "GuardFigures" 285 13 gf_T6 17 := ⟨by decide, gf_mem 236 (by decide +kernel) (by decide +kernel)⟩
theorem fl_Fi_71 : gf_fl "GuardFigures" 71 14 gf_T6 17 := ⟨by decide, gf_mem 237 (by decide +kernel) (by decide +kernel)⟩
theorem fl_Fi_291 : gf_fl "GuardFigures" 291 15 gf_T6 17 := ⟨by decide, gf_mem 238 (by decide +kernel) (by decide +kernel)⟩
theorem fl_Fi_75 : gf_fl "GuardFigures" 75 16 gf_T6 17 := ⟨by decide, gf_mem 239 (by decide +kernel) (by decide +kernel)⟩
theorem fl_Mo_7 : gf_fl "GuardFiguresModel" 7 0 gf_T7 26 := ⟨by decide, gf_mem 784 (by decide +kernel) (by decide +kernel)⟩
theorem fl_Mo_13 : gf_fl "GuardFiguresModel" 13 1 gf_T7 26 := ⟨by decide, gf_mem 785 (by decide +kernel) (by decide +kernel)⟩
theorem fl_Mo_16 : gf_fl "GuardFiguresModel" 16 2 gf_T7 26 := ⟨by decide, gf_mem 786 (by decide +kernel) (by decide +kernel)⟩
theorem fl_Mo_19 : gf_fl "GuardFiguresModel" 19 3 gf_T7 26 := ⟨by decide, gf_mem 787 (by decide +kernel) (by decide +kernel)⟩
theorem fl_Mo_64 : gf_fl "GuardFiguresModel" 64 4 gf_T7 26 := ⟨by decide, gf_mem 788 (by decide +kernel) (by decide +kernel)⟩
theorem fl_Mo_253 : gf_fl "GuardFiguresModel" 253 5 gf_T7 26 := ⟨by decide, gf_mem 789 (by decide +kernel) (by decide +kernel)⟩
theorem fl_Mo_23 : gf_fl "GuardFiguresModel" 23 6 gf_T7 26 := ⟨by decide, gf_mem 790 (by decide +kernel) (by decide +kernel)⟩
theorem fl_Mo_60 : gf_fl "GuardFiguresModel" 60 7 gf_T7 26 := ⟨by decide, gf_mem 791 (by decide +kernel) (by decide +kernel)⟩
theorem fl_Mo_27 : gf_fl "GuardFiguresModel" 27 8 gf_T7 26 := ⟨by decide, gf_mem 792 (by decide +kernel) (by decide +kernel)⟩
theorem fl_Mo_30 : gf_fl "GuardFiguresModel" 30 9 gf_T7 26 := ⟨by decide, gf_mem 793 (by decide +kernel) (by decide +kernel)⟩
theorem fl_Mo_96 : gf_fl "GuardFiguresModel" 96 10 gf_T7 26 := ⟨by decide, gf_mem 794 (by decide +kernel) (by decide +kernel)⟩
theorem fl_Mo_93 : gf_fl "GuardFiguresModel" 93 11 gf_T7 26 := ⟨by decide, gf_mem 795 (by decide +kernel) (by decide +kernel)⟩
theorem fl_Mo_103 : gf_fl "GuardFiguresModel" 103 12 gf_T7 26 := ⟨by decide, gf_mem 796 (by decide +kernel) (by decide +kernel)⟩
theorem fl_Mo_33 : gf_fl "GuardFiguresModel" 33 13 gf_T7 26 := ⟨by decide, gf_mem 797 (by decide +kernel) (by decide +kernel)⟩
theorem fl_Mo_36 : gf_fl "GuardFiguresModel" 36 14 gf_T7 26 := ⟨by decide, gf_mem 798 (by decide +kernel) (by decide +kernel)⟩
theorem fl_Mo_146 : gf_fl "GuardFiguresModel" 146 15 gf_T7 26 := ⟨by decide, gf_mem 799 (by decide +kernel) (by decide +kernel)⟩
theorem fl_Mo_156 : gf_fl "GuardFiguresModel" 156 16 gf_T7 26 := ⟨by decide, gf_mem 800 (by decide +kernel) (by decide +kernel)⟩
theorem fl_Mo_159 : gf_fl "GuardFiguresModel" 159 17 gf_T7 26 := ⟨by decide, gf_mem 801 (by decide +kernel) (by decide +kernel)⟩
theorem fl_Mo_39 : gf_fl "GuardFiguresModel" 39 18 gf_T7 26 := ⟨by decide, gf_mem 802 (by decide +kernel) (by decide +kernel)⟩
theorem fl_Mo_42 : gf_fl "GuardFiguresModel" 42 19 gf_T7 26 := ⟨by decide, gf_mem 803 (by decide +kernel) (by decide +kernel)⟩
theorem fl_Mo_45 : gf_fl "GuardFiguresModel" 45 20 gf_T7 26 := ⟨by decide, gf_mem 804 (by decide +kernel) (by decide +kernel)⟩
theorem fl_Mo_215 : gf_fl "GuardFiguresModel" 215 21 gf_T7 26 := ⟨by decide, gf_mem 805 (by decide +kernel) (by decide +kernel)⟩
theorem fl_Mo_48 : gf_fl "GuardFiguresModel" 48 22 gf_T7 26 := ⟨by decide, gf_mem 806 (by decide +kernel) (by decide +kernel)⟩
theorem fl_Mo_51 : gf_fl "GuardFiguresModel" 51 23 gf_T7 26 := ⟨by decide, gf_mem 807 (by decide +kernel) (by decide +kernel)⟩
theorem fl_Mo_54 : gf_fl "GuardFiguresModel" 54 24 gf_T7 26 := ⟨by decide, gf_mem 808 (by decide +kernel) (by decide +kernel)⟩
theorem fl_Mo_57 : gf_fl "GuardFiguresModel" 57 25 gf_T7 26 := ⟨by decide, gf_mem 809 (by decide +kernel) (by decide +kernel)⟩
theorem ck_In_265 : Cond.constant "java/lang/Integer" 265 (1431655765) ∈ gf_tbl := gf_mem 558 (by decide +kernel) (by decide +kernel)
theorem ck_In_266 : Cond.constant "java/lang/Integer" 266 (858993459) ∈ gf_tbl := gf_mem 559 (by decide +kernel) (by decide +kernel)
theorem ck_In_267 : Cond.constant "java/lang/Integer" 267 (252645135) ∈ gf_tbl := gf_mem 560 (by decide +kernel) (by decide +kernel)
theorem ck_Ou_25 : Cond.constantLong "GuardFigures$Outlook" 25 (100) ∈ gf_tbl := gf_mem 594 (by decide +kernel) (by decide +kernel)
theorem ck_Fi_277 : Cond.constant "GuardFigures" 277 (2147483647) ∈ gf_tbl := gf_mem 707 (by decide +kernel) (by decide +kernel)
theorem ck_Fi_278 : Cond.constantLong "GuardFigures" 278 (48271) ∈ gf_tbl := gf_mem 708 (by decide +kernel) (by decide +kernel)
theorem ck_Fi_280 : Cond.constantLong "GuardFigures" 280 (2147483647) ∈ gf_tbl := gf_mem 709 (by decide +kernel) (by decide +kernel)
theorem ck_Fi_294 : Cond.constantLong "GuardFigures" 294 (17) ∈ gf_tbl := gf_mem 771 (by decide +kernel) (by decide +kernel)
theorem ck_Fi_296 : Cond.constantLong "GuardFigures" 296 (31) ∈ gf_tbl := gf_mem 772 (by decide +kernel) (by decide +kernel)
theorem ck_Ro_23 : Cond.constantLong "GuardFigures$Row" 23 (31) ∈ gf_tbl := gf_mem 777 (by decide +kernel) (by decide +kernel)
theorem ck_Mo_67 : Cond.constantLong "GuardFiguresModel" 67 (5) ∈ gf_tbl := gf_mem 871 (by decide +kernel) (by decide +kernel)
theorem ck_Mo_88 : Cond.constantLong "GuardFiguresModel" 88 (3) ∈ gf_tbl := gf_mem 914 (by decide +kernel) (by decide +kernel)
theorem ck_Mo_106 : Cond.constantLong "GuardFiguresModel" 106 (48) ∈ gf_tbl := gf_mem 950 (by decide +kernel) (by decide +kernel)
theorem ck_Mo_108 : Cond.constantLong "GuardFiguresModel" 108 (57) ∈ gf_tbl := gf_mem 951 (by decide +kernel) (by decide +kernel)
theorem ck_Mo_189 : Cond.constantLong "GuardFiguresModel" 189 (4) ∈ gf_tbl := gf_mem 1021 (by decide +kernel) (by decide +kernel)
theorem ck_Mo_129 : Cond.constantLong "GuardFiguresModel" 129 (9) ∈ gf_tbl := gf_mem 1048 (by decide +kernel) (by decide +kernel)
theorem ck_Mo_210 : Cond.constantLong "GuardFiguresModel" 210 (2) ∈ gf_tbl := gf_mem 1081 (by decide +kernel) (by decide +kernel)
theorem ck_Mo_230 : Cond.constantLong "GuardFiguresModel" 230 (10) ∈ gf_tbl := gf_mem 1117 (by decide +kernel) (by decide +kernel)
theorem ck_Mo_240 : Cond.constantLong "GuardFiguresModel" 240 (8) ∈ gf_tbl := gf_mem 1133 (by decide +kernel) (by decide +kernel)
theorem ck_Mo_242 : Cond.constantLong "GuardFiguresModel" 242 (-1) ∈ gf_tbl := gf_mem 1134 (by decide +kernel) (by decide +kernel)
theorem ck_Mo_256 : Cond.constantLong "GuardFiguresModel" 256 (12) ∈ gf_tbl := gf_mem 1171 (by decide +kernel) (by decide +kernel)
theorem ck_Mo_266 : Cond.constantLong "GuardFiguresModel" 266 (20) ∈ gf_tbl := gf_mem 1184 (by decide +kernel) (by decide +kernel)
theorem ck_Mo_268 : Cond.constantLong "GuardFiguresModel" 268 (2147483646) ∈ gf_tbl := gf_mem 1185 (by decide +kernel) (by decide +kernel)
theorem ck_Mo_270 : Cond.constantLong "GuardFiguresModel" 270 (48271) ∈ gf_tbl := gf_mem 1186 (by decide +kernel) (by decide +kernel)
theorem ck_Mo_272 : Cond.constantLong "GuardFiguresModel" 272 (2147483647) ∈ gf_tbl := gf_mem 1187 (by decide +kernel) (by decide +kernel)
theorem ck_Mo_274 : Cond.constantLong "GuardFiguresModel" 274 (128) ∈ gf_tbl := gf_mem 1188 (by decide +kernel) (by decide +kernel)
theorem ck_Mo_289 : Cond.constantLong "GuardFiguresModel" 289 (17) ∈ gf_tbl := gf_mem 1232 (by decide +kernel) (by decide +kernel)
theorem ck_Mo_291 : Cond.constantLong "GuardFiguresModel" 291 (31) ∈ gf_tbl := gf_mem 1233 (by decide +kernel) (by decide +kernel)
end
section
/-! what a guard reckons, as integers -/
abbrev gf_rm (f L : Nat) : Room := { frames := f, cells := 0, slots := 0, locals := L }
theorem gf_pm {X : gf_X} {E : gf_E} {Q : State → Prop} {nL : Nat} {φ : gf_F} {μ m : gf_M} {pc : Nat} {lv : List (Nat × Value)} {st : List Value} (h : m = μ) (kk : gf_G X E Q nL φ μ pc lv st) : gf_G X E Q nL φ m pc lv st := h ▸ kk
theorem pf_mulb {a b A B : Int} (ha : 0 ≤ a ∧ a ≤ A) (hb : 0 ≤ b ∧ b ≤ B) : 0 ≤ a * b ∧ a * b ≤ A * B :=
  ⟨Int.mul_nonneg ha.1 hb.1, Int.mul_le_mul ha.2 hb.2 hb.1 (Int.le_trans ha.1 ha.2)⟩
def pf_wt (first step p : Int) : Int := (first + p * step) % 10
theorem pf_wt_R (first step p : Int) : 0 ≤ pf_wt first step p ∧ pf_wt first step p ≤ 9 := by unfold pf_wt; omega
def pf_cs (x : Int) : Int := x / 10 + x % 10
def pf_fol (kind first step sofar place figure size : Int) : Int :=
  if kind = 1 then (sofar + figure * pf_wt first step place) % 11
  else if kind = 2 ∨ kind = 5 then (sofar + pf_cs (figure * pf_wt first step place)) % 10
  else if kind = 3 then (sofar * first + figure + step) % 10
  else if kind = 4 then (sofar + figure * pf_wt first step (size - 1 - place)) % 11
  else (sofar + figure * pf_wt first step place) % 10
theorem pf_fol_R (kind first step sofar place figure size : Int) : 0 ≤ pf_fol kind first step sofar place figure size ∧ pf_fol kind first step sofar place figure size ≤ 10 := by
  unfold pf_fol
  repeat' split
  all_goals omega
def pf_fin (kind sofar size : Int) : Int := if kind = 5 then (2 * sofar + size) % 10 else sofar
/-- what it has so far behind n figures -/
def pf_rec (kind first step : Int) (f : Int → Int) (size : Int) : Nat → Int
  | 0 => 0
  | n + 1 => pf_fol kind first step (pf_rec kind first step f size n) n (f n) size
theorem pf_rec_R (kind first step : Int) (f : Int → Int) (size : Int) (n : Nat) : 0 ≤ pf_rec kind first step f size n ∧ pf_rec kind first step f size n ≤ 10 := by
  cases n with
  | zero => unfold pf_rec; omega
  | succ n => unfold pf_rec; exact pf_fol_R _ _ _ _ _ _ _
def pf_reck (kind first step : Int) (f : Int → Int) (size : Int) : Int := pf_fin kind (pf_rec kind first step f size size.toNat) size
theorem pf_fin_R {kind sofar size : Int} (h : 0 ≤ sofar ∧ sofar ≤ 10) : 0 ≤ pf_fin kind sofar size ∧ pf_fin kind sofar size ≤ 10 := by
  unfold pf_fin
  split <;> omega
theorem pf_reck_R (kind first step : Int) (f : Int → Int) (size : Int) : 0 ≤ pf_reck kind first step f size ∧ pf_reck kind first step f size ≤ 10 := pf_fin_R (pf_rec_R _ _ _ _ _ _)
theorem pf_rec_congr {kind first step : Int} {f g : Int → Int} {size : Int} : ∀ (n : Nat), (∀ j : Int, 0 ≤ j → j < n → f j = g j) → pf_rec kind first step f size n = pf_rec kind first step g size n
  | 0, _ => rfl
  | n + 1, h => by
    unfold pf_rec
    rw [pf_rec_congr n (fun j h0 h1 => h j h0 (by omega)), h n (by omega) (by omega)]
theorem pf_reck_congr {kind first step : Int} {f g : Int → Int} {size : Int} (h : ∀ j : Int, 0 ≤ j → j < size → f j = g j) : pf_reck kind first step f size = pf_reck kind first step g size := by
  unfold pf_reck
  rw [pf_rec_congr size.toNat (fun j h0 h1 => h j h0 (by omega))]
/-- a guard's cells hold a kind, a first weight, a step -/
def gf_okG (μ : gf_M) (g : Int) : Prop := (0 ≤ μ g 0 ∧ μ g 0 ≤ 5) ∧ (0 ≤ μ g 1 ∧ μ g 1 ≤ 9) ∧ (0 ≤ μ g 2 ∧ μ g 2 ≤ 9)
/-- row k has figures at its first n places -/
def gf_okF (μ : gf_M) (k n : Int) : Prop := ∀ j : Int, 0 ≤ j → j < n → 0 ≤ μ k j ∧ μ k j ≤ 9
/-- a guard of kind k is of kind w, too -/
def pf_is (k w : Int) : Prop := k = w ∨ (0 < k ∧ w = 0) ∨ (k = 4 ∧ w = 1) ∨ (k = 5 ∧ w = 2)
theorem pf_above {x : Int} (h : 0 ≤ x ∧ x < 6) : (x = 0 → ([-1, 0, 0, 0, 1, 2] : List Int).getD x.toNat 0 = -1) ∧ (1 ≤ x ∧ x ≤ 3 → ([-1, 0, 0, 0, 1, 2] : List Int).getD x.toNat 0 = 0) ∧ (x = 4 → ([-1, 0, 0, 0, 1, 2] : List Int).getD x.toNat 0 = 1) ∧ (x = 5 → ([-1, 0, 0, 0, 1, 2] : List Int).getD x.toNat 0 = 2) := by
  have : x = 0 ∨ x = 1 ∨ x = 2 ∨ x = 3 ∨ x = 4 ∨ x = 5 := by omega
  rcases this with rfl | rfl | rfl | rfl | rfl | rfl <;> decide
end
section
/-! rows of small library methods, copies, bits -/
def gf_min (a b : Int) : Int := if b < a then b else a
def gf_max (a b : Int) : Int := if a < b then b else a
def gf_abs (a : Int) : Int := if 0 ≤ a then a else 0 - a
def gf_shl (a k : Int) : Int := a * 2 ^ k.toNat
def gf_shr (a k : Int) : Int := a / 2 ^ k.toNat
def gf_and (a b : Int) : Int := ((a.toNat &&& b.toNat : Nat) : Int)
def gf_or (a b : Int) : Int := ((a.toNat ||| b.toNat : Nat) : Int)
theorem gf_wCp : Cond.native arraycopyName ∈ gf_tbl ∧ Cond.static arraycopyName ∈ gf_tbl ∧ Cond.initialized "java/lang/System" ∈ gf_tbl := ⟨gf_mem 335 (by decide +kernel) (by decide +kernel), gf_mem 334 (by decide +kernel) (by decide +kernel), gf_mem 81 (by decide +kernel) (by decide +kernel)⟩
theorem gf_iN {x : Int} (h : 0 ≤ x) : gf_i x = Int32.ofNat x.toNat := by
  rw [← Int32.ofInt_eq_ofNat]
  unfold gf_i
  congr 1
  omega
theorem gf_iandN (m n : Nat) : Int32.ofNat m &&& Int32.ofNat n = Int32.ofNat (m &&& n) := by
  apply Int32.toBitVec.inj
  apply BitVec.eq_of_toNat_eq
  simp [Nat.and_mod_two_pow]
theorem gf_iorN (m n : Nat) : Int32.ofNat m ||| Int32.ofNat n = Int32.ofNat (m ||| n) := by
  apply Int32.toBitVec.inj
  apply BitVec.eq_of_toNat_eq
  simp [Nat.or_mod_two_pow]
theorem gf_shlD : ∀ n : Nat, n < 31 → Int32.ofInt 1 <<< (Int32.ofInt n &&& 31) = Int32.ofInt (1 * 2 ^ n) := by decide +kernel
theorem gf_shrD : ∀ n : Nat, n < 32 → ((Int32.ofInt n &&& 31).toBitVec.smod 32).toNat = n := by decide +kernel
section GF6
variable {X : gf_X} {E : gf_E} {Q : State → Prop} {nL : Nat} {φ : gf_F} {μ : gf_M} {pc : Nat} {lv : List (Nat × Value)} {st : List Value} {cc : ByteArray} {own : String} {rm : Room} {index : Nat} {x y : Int}
theorem gf_iand (C : gf_C X E cc nL own rm) (d : decode cc pc = .ok (.iand, 1)) (h : 0 ≤ x ∧ 0 ≤ y) (kk : gf_G X E Q nL φ μ (pc + 1) lv (.int (gf_i (gf_and x y)) :: st)) : gf_G X E Q nL φ μ pc lv (.int (gf_i y) :: .int (gf_i x) :: st) := by
  intro H locs ls hl hW hS
  refine lv_iand C.1 C.2.1 d ?_
  have e : gf_i x &&& gf_i y = gf_i (gf_and x y) := by
    rw [gf_iN h.1, gf_iN h.2, gf_iandN, gf_iN (x := gf_and x y) (by unfold gf_and; omega)]
    rfl
  rw [e]
  exact kk H locs ls hl hW hS
theorem gf_ior (C : gf_C X E cc nL own rm) (d : decode cc pc = .ok (.ior, 1)) (h : 0 ≤ x ∧ 0 ≤ y) (kk : gf_G X E Q nL φ μ (pc + 1) lv (.int (gf_i (gf_or x y)) :: st)) : gf_G X E Q nL φ μ pc lv (.int (gf_i y) :: .int (gf_i x) :: st) := by
  intro H locs ls hl hW hS
  refine lv_ior C.1 C.2.1 d ?_
  have e : gf_i x ||| gf_i y = gf_i (gf_or x y) := by
    rw [gf_iN h.1, gf_iN h.2, gf_iorN, gf_iN (x := gf_or x y) (by unfold gf_or; omega)]
    rfl
  rw [e]
  exact kk H locs ls hl hW hS
theorem gf_ishl (C : gf_C X E cc nL own rm) (d : decode cc pc = .ok (.ishl, 1)) (h : x = 1 ∧ 0 ≤ y ∧ y ≤ 30) (kk : gf_G X E Q nL φ μ (pc + 1) lv (.int (gf_i (gf_shl x y)) :: st)) : gf_G X E Q nL φ μ pc lv (.int (gf_i y) :: .int (gf_i x) :: st) := by
  intro H locs ls hl hW hS
  obtain ⟨rfl, h0, h1⟩ := h
  refine lv_ishl C.1 C.2.1 d ?_
  have e := gf_shlD y.toNat (by omega)
  rw [show ((y.toNat : Nat) : Int) = y by omega] at e
  have e2 : gf_i 1 <<< (gf_i y &&& 31) = gf_i (gf_shl 1 y) := e
  rw [e2]
  exact kk H locs ls hl hW hS
theorem gf_ishr (C : gf_C X E cc nL own rm) (d : decode cc pc = .ok (.ishr, 1)) (h : 0 ≤ x ∧ x ≤ 2147483647 ∧ 0 ≤ y ∧ y ≤ 31) (kk : gf_G X E Q nL φ μ (pc + 1) lv (.int (gf_i (gf_shr x y)) :: st)) : gf_G X E Q nL φ μ pc lv (.int (gf_i y) :: .int (gf_i x) :: st) := by
  intro H locs ls hl hW hS
  refine lv_ishr C.1 C.2.1 d ?_
  have e0 := gf_shrD y.toNat (by omega)
  rw [show ((y.toNat : Nat) : Int) = y by omega] at e0
  have e : gf_i x >>> (gf_i y &&& 31) = gf_i (gf_shr x y) := by
    rw [gf_iN h.1]
    have := pk_shrN (n := x.toNat) (by omega) (gf_i y &&& 31) y.toNat e0
    have e3 : nI x.toNat = Int32.ofNat x.toNat := rfl
    rw [← e3, this]
    have hq : gf_shr x y = ((x.toNat / 2 ^ y.toNat : Nat) : Int) := by
      unfold gf_shr
      rw [Int.natCast_ediv]
      congr 1
      omega
    rw [hq, gf_iN (Int.natCast_nonneg _)]
    rfl
  rw [e]
  exact kk H locs ls hl hW hS
set_option maxRecDepth 100000 in
theorem gf_mmin (C : gf_C X E cc nL own rm) (hw : Cond.methodLink own index Lib.Math.min.name ∈ gf_tbl) (d : decode cc pc = .ok (.invokestatic index, 3)) (h : gf_R x ∧ gf_R y) (hr : 1 ≤ rm.frames ∧ (st.map fun v => v.category).sum + 15 ≤ rm.locals ∧ φ.1 = 0 ∧ φ.2.1 = 0) (kk : gf_G X E Q nL φ μ (pc + 3) lv (.int (gf_i (gf_min x y)) :: st)) : gf_G X E Q nL φ μ pc lv (.int (gf_i y) :: .int (gf_i x) :: st) := by
  intro H locs ls hl hW hS
  have hts := C.2.2.2.2.1
  refine va_mmin C.1 C.2.1 (by rw [C.2.2.1]; exact hl.1.symm) C.2.2.2.1 (hts _ hw) (hts _ (gf_mem 295 (by decide +kernel) (by decide +kernel))) (hts _ (gf_mem 80 (by decide +kernel) (by decide +kernel))) (hts _ (gf_mem 296 rfl (by decide +kernel))) (by rw [C.2.2.2.2.2.2.2.1]; exact hr.1) (by rw [C.2.2.2.2.2.2.2.1]; omega) (by rw [hr.2.2.1]; exact Nat.zero_le _) (by rw [hr.2.2.2]; exact Nat.zero_le _) d ?_
  have e : (if gf_i y < gf_i x then gf_i y else gf_i x) = gf_i (gf_min x y) := by
    unfold gf_min
    by_cases hlt : y < x
    · rw [if_pos ((gf_i_lt h.2 h.1).mpr hlt), if_pos hlt]
    · rw [if_neg (fun z => hlt ((gf_i_lt h.2 h.1).mp z)), if_neg hlt]
  rw [e]
  exact kk H locs ls hl hW hS
set_option maxRecDepth 100000 in
theorem gf_mmax (C : gf_C X E cc nL own rm) (hw : Cond.methodLink own index Lib.Math.max.name ∈ gf_tbl) (d : decode cc pc = .ok (.invokestatic index, 3)) (h : gf_R x ∧ gf_R y) (hr : 1 ≤ rm.frames ∧ (st.map fun v => v.category).sum + 15 ≤ rm.locals ∧ φ.1 = 0 ∧ φ.2.1 = 0) (kk : gf_G X E Q nL φ μ (pc + 3) lv (.int (gf_i (gf_max x y)) :: st)) : gf_G X E Q nL φ μ pc lv (.int (gf_i y) :: .int (gf_i x) :: st) := by
  intro H locs ls hl hW hS
  have hts := C.2.2.2.2.1
  refine va_mmax C.1 C.2.1 (by rw [C.2.2.1]; exact hl.1.symm) C.2.2.2.1 (hts _ hw) (hts _ (gf_mem 650 (by decide +kernel) (by decide +kernel))) (hts _ (gf_mem 80 (by decide +kernel) (by decide +kernel))) (hts _ (gf_mem 651 rfl (by decide +kernel))) (by rw [C.2.2.2.2.2.2.2.1]; exact hr.1) (by rw [C.2.2.2.2.2.2.2.1]; omega) (by rw [hr.2.2.1]; exact Nat.zero_le _) (by rw [hr.2.2.2]; exact Nat.zero_le _) d ?_
  have e : (if gf_i x < gf_i y then gf_i y else gf_i x) = gf_i (gf_max x y) := by
    unfold gf_max
    by_cases hlt : x < y
    · rw [if_pos ((gf_i_lt h.1 h.2).mpr hlt), if_pos hlt]
    · rw [if_neg (fun z => hlt ((gf_i_lt h.1 h.2).mp z)), if_neg hlt]
  rw [e]
  exact kk H locs ls hl hW hS
set_option maxRecDepth 100000 in
theorem gf_mabs (C : gf_C X E cc nL own rm) (hw : Cond.methodLink own index Lib.Math.abs.name ∈ gf_tbl) (d : decode cc pc = .ok (.invokestatic index, 3)) (h : gf_R x) (hr : 1 ≤ rm.frames ∧ (st.map fun v => v.category).sum + 15 ≤ rm.locals ∧ φ.1 = 0 ∧ φ.2.1 = 0) (kk : gf_G X E Q nL φ μ (pc + 3) lv (.int (gf_i (gf_abs x)) :: st)) : gf_G X E Q nL φ μ pc lv (.int (gf_i x) :: st) := by
  intro H locs ls hl hW hS
  have hts := C.2.2.2.2.1
  refine va_mabs C.1 C.2.1 (by rw [C.2.2.1]; exact hl.1.symm) C.2.2.2.1 (hts _ hw) (hts _ (gf_mem 466 (by decide +kernel) (by decide +kernel))) (hts _ (gf_mem 80 (by decide +kernel) (by decide +kernel))) (hts _ (gf_mem 467 rfl (by decide +kernel))) (by rw [C.2.2.2.2.2.2.2.1]; exact hr.1) (by rw [C.2.2.2.2.2.2.2.1]; omega) (by rw [hr.2.2.1]; exact Nat.zero_le _) (by rw [hr.2.2.2]; exact Nat.zero_le _) d ?_
  have e : (if 0 ≤ gf_i x then gf_i x else 0 - gf_i x) = gf_i (gf_abs x) := by
    unfold gf_abs
    by_cases hlt : 0 ≤ x
    · rw [if_pos (by rw [← gf_i0]; exact (gf_i_le gf_R0 h).mpr hlt), if_pos hlt]
    · rw [if_neg (fun z => hlt (by rw [← gf_i0] at z; exact (gf_i_le gf_R0 h).mp z)), if_neg hlt]
      unfold gf_i
      rw [Int32.ofInt_sub]
      rfl
  rw [e]
  exact kk H locs ls hl hW hS
set_option maxRecDepth 100000 in
theorem gf_mminl (C : gf_C X E cc nL own rm) (hw : Cond.methodLink own index Lib.MathLoose.min_long.x ∈ gf_tbl) (d : decode cc pc = .ok (.invokestatic index, 3)) (h : gf_RL x ∧ gf_RL y) (hr : 1 ≤ rm.frames ∧ (st.map fun v => v.category).sum + 15 ≤ rm.locals ∧ φ.1 = 0 ∧ φ.2.1 = 0) (kk : gf_G X E Q nL φ μ (pc + 3) lv (.long (gf_l (gf_min x y)) :: st)) : gf_G X E Q nL φ μ pc lv (.long (gf_l y) :: .long (gf_l x) :: st) := by
  intro H locs ls hl hW hS
  have hts := C.2.2.2.2.1
  refine va_mmin_long C.1 C.2.1 (by rw [C.2.2.1]; exact hl.1.symm) C.2.2.2.1 (hts _ hw) (hts _ (gf_mem 605 (by decide +kernel) (by decide +kernel))) (hts _ (gf_mem 80 (by decide +kernel) (by decide +kernel))) (hts _ (gf_mem 606 rfl (by decide +kernel))) (by rw [C.2.2.2.2.2.2.2.1]; exact hr.1) (by rw [C.2.2.2.2.2.2.2.1]; omega) (by rw [hr.2.2.1]; exact Nat.zero_le _) (by rw [hr.2.2.2]; exact Nat.zero_le _) d ?_
  have e : (if gf_l y < gf_l x then gf_l y else gf_l x) = gf_l (gf_min x y) := by
    unfold gf_min
    by_cases hlt : y < x
    · rw [if_pos ((gf_l_lt h.2 h.1).mpr hlt), if_pos hlt]
    · rw [if_neg (fun z => hlt ((gf_l_lt h.2 h.1).mp z)), if_neg hlt]
  rw [e]
  exact kk H locs ls hl hW hS
set_option maxRecDepth 100000 in
theorem gf_mmaxl (C : gf_C X E cc nL own rm) (hw : Cond.methodLink own index Lib.MathLoose.max_long.x ∈ gf_tbl) (d : decode cc pc = .ok (.invokestatic index, 3)) (h : gf_RL x ∧ gf_RL y) (hr : 1 ≤ rm.frames ∧ (st.map fun v => v.category).sum + 15 ≤ rm.locals ∧ φ.1 = 0 ∧ φ.2.1 = 0) (kk : gf_G X E Q nL φ μ (pc + 3) lv (.long (gf_l (gf_max x y)) :: st)) : gf_G X E Q nL φ μ pc lv (.long (gf_l y) :: .long (gf_l x) :: st) := by
  intro H locs ls hl hW hS
  have hts := C.2.2.2.2.1
  refine va_mmax_long C.1 C.2.1 (by rw [C.2.2.1]; exact hl.1.symm) C.2.2.2.1 (hts _ hw) (hts _ (gf_mem 670 (by decide +kernel) (by decide +kernel))) (hts _ (gf_mem 80 (by decide +kernel) (by decide +kernel))) (hts _ (gf_mem 671 rfl (by decide +kernel))) (by rw [C.2.2.2.2.2.2.2.1]; exact hr.1) (by rw [C.2.2.2.2.2.2.2.1]; omega) (by rw [hr.2.2.1]; exact Nat.zero_le _) (by rw [hr.2.2.2]; exact Nat.zero_le _) d ?_
  have e : (if gf_l y < gf_l x then gf_l x else gf_l y) = gf_l (gf_max x y) := by
    unfold gf_max
    by_cases hlt : x < y
    · rw [if_neg (fun z => by have := (gf_l_lt h.2 h.1).mp z; omega), if_pos hlt]
    · by_cases h2 : y < x
      · rw [if_pos ((gf_l_lt h.2 h.1).mpr h2), if_neg hlt]
      · rw [if_neg (fun z => h2 ((gf_l_lt h.2 h.1).mp z)), if_neg hlt, show y = x by omega]
  rw [e]
  exact kk H locs ls hl hW hS
/-- a long that may have run over is told cut -/
theorem gf_lretw {Po : Int → gf_M → Prop} (C : gf_C X E cc nL own rm) (hQ : gf_Rl X E Q φ Po) (d : decode cc pc = .ok (.lreturn, 1)) (hp : Po (gf_wl x) μ) : gf_G X E Q nL φ μ pc lv [.long (gf_l x)] := by
  rw [← gf_wl_l]
  exact gf_lret C hQ d (gf_wl_R x) hp
theorem gf_iastw {c N : Nat} {k v : Int} (C : gf_C X E cc nL own rm) (d : decode cc pc = .ok (.iastore, 1)) (hk : gf_is φ.2.2.1 k 1 c N) (hx : 0 ≤ x ∧ x < (N : Int)) (kk : gf_G X E Q nL φ (gf_up μ k x (gf_w v)) (pc + 1) lv st) : gf_G X E Q nL φ μ pc lv (.int (gf_i v) :: .int (gf_i x) :: .ref (gf_ad E k) :: st) := by
  rw [← gf_w_i]
  exact gf_iast C d hk hx (gf_w_R v) kk
end GF6
end
section
theorem dd_Gd_weight_0 : decode cc_Gd_weight 0 = .ok (.aload_n 0, 1) := by decide +kernel
theorem dd_Gd_weight_1 : decode cc_Gd_weight 1 = .ok (.getfield 15, 3) := by decide +kernel
theorem dd_Gd_weight_4 : decode cc_Gd_weight 4 = .ok (.iload_n 1, 1) := by decide +kernel
theorem dd_Gd_weight_5 : decode cc_Gd_weight 5 = .ok (.aload_n 0, 1) := by decide +kernel
theorem dd_Gd_weight_6 : decode cc_Gd_weight 6 = .ok (.getfield 18, 3) := by decide +kernel
theorem dd_Gd_weight_9 : decode cc_Gd_weight 9 = .ok (.imul, 1) := by decide +kernel
theorem dd_Gd_weight_10 : decode cc_Gd_weight 10 = .ok (.iadd, 1) := by decide +kernel
theorem dd_Gd_weight_11 : decode cc_Gd_weight 11 = .ok (.bipush 10, 2) := by decide +kernel
theorem dd_Gd_weight_13 : decode cc_Gd_weight 13 = .ok (.irem, 1) := by decide +kernel
theorem dd_Gd_weight_14 : decode cc_Gd_weight 14 = .ok (.ireturn, 1) := by decide +kernel
set_option maxRecDepth 100000 in
set_option maxHeartbeats 4000000 in
theorem ct_Gd_weight (l : Launch) (E : gf_E) (g pl : Int) (μ : gf_M) (hg : gf_oGd g) (hG : gf_okG μ g) (hp : 0 ≤ pl ∧ pl ≤ 8) : gf_Mi l E yy_Gd_weight cc_Gd_weight 2 .int (gf_rm 0 0) 81 gf_ref μ [.ref (gf_ad E g), .int (gf_i pl)] (fun r μ' => (r = pf_wt (μ g 1) (μ g 2) pl ∧ 0 ≤ r ∧ r ≤ 9) ∧ μ' = μ) := by
  refine gf_mi (by decide +kernel) (Nat.le_of_ble_eq_true rfl) (by decide) (fun X Q hlx C hQ => ?_)
  subst hlx
  replace C : gf_C X E cc_Gd_weight 2 "GuardFigures$Guard" (gf_rm 0 0) := C
  show gf_G X E Q 2 gf_φ μ 0 [(0, .ref (gf_ad E g)), (1, .int (gf_i pl))] []
  obtain ⟨hk0, hk1, hk2⟩ := hG
  have hm := pf_mulb hp hk2
  refine gf_aload_n C dd_Gd_weight_0 0 rfl ?_
  refine gf_getI (z := 1) C gf_cl0 fl_Gd_15 dd_Gd_weight_1 rfl rfl hg (fun hv1 => ?_)
  refine gf_iload_n C dd_Gd_weight_4 1 rfl ?_
  refine gf_aload_n C dd_Gd_weight_5 0 rfl ?_
  refine gf_getI (z := 2) C gf_cl0 fl_Gd_18 dd_Gd_weight_6 rfl rfl hg (fun hv6 => ?_)
  refine gf_imul C dd_Gd_weight_9 ?_
  refine gf_iadd C dd_Gd_weight_10 ?_
  refine gf_bipush C dd_Gd_weight_11 (by decide +kernel) ?_
  refine gf_irem C dd_Gd_weight_13 (by omega) ?_
  refine gf_iret C hQ dd_Gd_weight_14 (by omega) ?_
  exact ⟨⟨rfl, by omega, by omega⟩, rfl⟩

theorem dd_Gd_crossSum_0 : decode cc_Gd_crossSum 0 = .ok (.iload_n 0, 1) := by decide +kernel
theorem dd_Gd_crossSum_1 : decode cc_Gd_crossSum 1 = .ok (.bipush 10, 2) := by decide +kernel
theorem dd_Gd_crossSum_3 : decode cc_Gd_crossSum 3 = .ok (.idiv, 1) := by decide +kernel
theorem dd_Gd_crossSum_4 : decode cc_Gd_crossSum 4 = .ok (.iload_n 0, 1) := by decide +kernel
theorem dd_Gd_crossSum_5 : decode cc_Gd_crossSum 5 = .ok (.bipush 10, 2) := by decide +kernel
theorem dd_Gd_crossSum_7 : decode cc_Gd_crossSum 7 = .ok (.irem, 1) := by decide +kernel
theorem dd_Gd_crossSum_8 : decode cc_Gd_crossSum 8 = .ok (.iadd, 1) := by decide +kernel
theorem dd_Gd_crossSum_9 : decode cc_Gd_crossSum 9 = .ok (.ireturn, 1) := by decide +kernel
set_option maxRecDepth 100000 in
set_option maxHeartbeats 4000000 in
theorem ct_Gd_crossSum (l : Launch) (E : gf_E) (x : Int) (μ : gf_M) (hx : 0 ≤ x ∧ x ≤ 1000) : gf_Mi l E yy_Gd_crossSum cc_Gd_crossSum 1 .int (gf_rm 0 0) 81 gf_ref μ [.int (gf_i x)] (fun r μ' => (r = pf_cs x ∧ 0 ≤ r ∧ r ≤ 110) ∧ μ' = μ) := by
  refine gf_mi (by decide +kernel) (Nat.le_of_ble_eq_true rfl) (by decide) (fun X Q hlx C hQ => ?_)
  subst hlx
  replace C : gf_C X E cc_Gd_crossSum 1 "GuardFigures$Guard" (gf_rm 0 0) := C
  show gf_G X E Q 1 gf_φ μ 0 [(0, .int (gf_i x))] []
  refine gf_iload_n C dd_Gd_crossSum_0 0 rfl ?_
  refine gf_bipush C dd_Gd_crossSum_1 (by decide +kernel) ?_
  refine gf_idiv C dd_Gd_crossSum_3 (by omega) ?_
  refine gf_iload_n C dd_Gd_crossSum_4 0 rfl ?_
  refine gf_bipush C dd_Gd_crossSum_5 (by decide +kernel) ?_
  refine gf_irem C dd_Gd_crossSum_7 (by omega) ?_
  refine gf_iadd C dd_Gd_crossSum_8 ?_
  refine gf_iret C hQ dd_Gd_crossSum_9 (by omega) ?_
  exact ⟨⟨rfl, by omega, by omega⟩, rfl⟩

theorem dd_Gd_finish_0 : decode cc_Gd_finish 0 = .ok (.aload_n 0, 1) := by decide +kernel
theorem dd_Gd_finish_1 : decode cc_Gd_finish 1 = .ok (.getfield 9, 3) := by decide +kernel
theorem dd_Gd_finish_4 : decode cc_Gd_finish 4 = .ok (.iconst 5, 1) := by decide +kernel
theorem dd_Gd_finish_5 : decode cc_Gd_finish 5 = .ok (.if_icmp .ne 14, 3) := by decide +kernel
theorem dd_Gd_finish_8 : decode cc_Gd_finish 8 = .ok (.iconst 2, 1) := by decide +kernel
theorem dd_Gd_finish_9 : decode cc_Gd_finish 9 = .ok (.iload_n 1, 1) := by decide +kernel
theorem dd_Gd_finish_10 : decode cc_Gd_finish 10 = .ok (.imul, 1) := by decide +kernel
theorem dd_Gd_finish_11 : decode cc_Gd_finish 11 = .ok (.iload_n 2, 1) := by decide +kernel
theorem dd_Gd_finish_12 : decode cc_Gd_finish 12 = .ok (.iadd, 1) := by decide +kernel
theorem dd_Gd_finish_13 : decode cc_Gd_finish 13 = .ok (.bipush 10, 2) := by decide +kernel
theorem dd_Gd_finish_15 : decode cc_Gd_finish 15 = .ok (.irem, 1) := by decide +kernel
theorem dd_Gd_finish_16 : decode cc_Gd_finish 16 = .ok (.goto 4, 3) := by decide +kernel
theorem dd_Gd_finish_19 : decode cc_Gd_finish 19 = .ok (.iload_n 1, 1) := by decide +kernel
theorem dd_Gd_finish_20 : decode cc_Gd_finish 20 = .ok (.ireturn, 1) := by decide +kernel
set_option maxRecDepth 100000 in
set_option maxHeartbeats 4000000 in
theorem ct_Gd_finish (l : Launch) (E : gf_E) (g s n : Int) (μ : gf_M) (hg : gf_oGd g) (hG : gf_okG μ g) (hs : 0 ≤ s ∧ s ≤ 10) (hn : 0 ≤ n ∧ n ≤ 8) : gf_Mi l E yy_Gd_finish cc_Gd_finish 3 .int (gf_rm 0 0) 81 gf_ref μ [.ref (gf_ad E g), .int (gf_i s), .int (gf_i n)] (fun r μ' => (r = pf_fin (μ g 0) s n ∧ 0 ≤ r ∧ r ≤ 10) ∧ μ' = μ) := by
  refine gf_mi (by decide +kernel) (Nat.le_of_ble_eq_true rfl) (by decide) (fun X Q hlx C hQ => ?_)
  subst hlx
  replace C : gf_C X E cc_Gd_finish 3 "GuardFigures$Guard" (gf_rm 0 0) := C
  show gf_G X E Q 3 gf_φ μ 0 [(0, .ref (gf_ad E g)), (1, .int (gf_i s)), (2, .int (gf_i n))] []
  obtain ⟨hk0, hk1, hk2⟩ := hG
  refine gf_aload_n C dd_Gd_finish_0 0 rfl ?_
  refine gf_getI (z := 0) C gf_cl0 fl_Gd_9 dd_Gd_finish_1 rfl rfl hg (fun hv1 => ?_)
  refine gf_iconst C dd_Gd_finish_4 ?_
  refine gf_icmp_ne 19 C dd_Gd_finish_5 (by decide) (by omega) (by omega) (fun h5 => ?_) (fun h5 => ?_)
  · skip
    refine gf_iload_n C dd_Gd_finish_19 1 rfl ?_
    refine gf_iret C hQ dd_Gd_finish_20 (by omega) ?_
    exact ⟨⟨by simp [pf_fin, h5], by omega, by omega⟩, rfl⟩
  · skip
    refine gf_iconst C dd_Gd_finish_8 ?_
    refine gf_iload_n C dd_Gd_finish_9 1 rfl ?_
    refine gf_imul C dd_Gd_finish_10 ?_
    refine gf_iload_n C dd_Gd_finish_11 2 rfl ?_
    refine gf_iadd C dd_Gd_finish_12 ?_
    refine gf_bipush C dd_Gd_finish_13 (by decide +kernel) ?_
    refine gf_irem C dd_Gd_finish_15 (by omega) ?_
    refine gf_goto 20 C dd_Gd_finish_16 (by decide) ?_
    refine gf_iret C hQ dd_Gd_finish_20 (by omega) ?_
    exact ⟨⟨by simp [pf_fin, h5], by omega, by omega⟩, rfl⟩

theorem dd_Gd_follow_0 : decode cc_Gd_follow 0 = .ok (.aload_n 0, 1) := by decide +kernel
theorem dd_Gd_follow_1 : decode cc_Gd_follow 1 = .ok (.getfield 9, 3) := by decide +kernel
theorem dd_Gd_follow_4 : decode cc_Gd_follow 4 = .ok (.tableswitch 100 1 5 #[36, 49, 65, 82, 49], 36) := by decide +kernel
theorem dd_Gd_follow_40 : decode cc_Gd_follow 40 = .ok (.iload_n 1, 1) := by decide +kernel
theorem dd_Gd_follow_41 : decode cc_Gd_follow 41 = .ok (.iload_n 3, 1) := by decide +kernel
theorem dd_Gd_follow_42 : decode cc_Gd_follow 42 = .ok (.aload_n 0, 1) := by decide +kernel
theorem dd_Gd_follow_43 : decode cc_Gd_follow 43 = .ok (.iload_n 2, 1) := by decide +kernel
theorem dd_Gd_follow_44 : decode cc_Gd_follow 44 = .ok (.invokevirtual 25, 3) := by decide +kernel
theorem dd_Gd_follow_47 : decode cc_Gd_follow 47 = .ok (.imul, 1) := by decide +kernel
theorem dd_Gd_follow_48 : decode cc_Gd_follow 48 = .ok (.iadd, 1) := by decide +kernel
theorem dd_Gd_follow_49 : decode cc_Gd_follow 49 = .ok (.bipush 11, 2) := by decide +kernel
theorem dd_Gd_follow_51 : decode cc_Gd_follow 51 = .ok (.irem, 1) := by decide +kernel
theorem dd_Gd_follow_52 : decode cc_Gd_follow 52 = .ok (.ireturn, 1) := by decide +kernel
theorem dd_Gd_follow_53 : decode cc_Gd_follow 53 = .ok (.iload_n 1, 1) := by decide +kernel
theorem dd_Gd_follow_54 : decode cc_Gd_follow 54 = .ok (.iload_n 3, 1) := by decide +kernel
theorem dd_Gd_follow_55 : decode cc_Gd_follow 55 = .ok (.aload_n 0, 1) := by decide +kernel
theorem dd_Gd_follow_56 : decode cc_Gd_follow 56 = .ok (.iload_n 2, 1) := by decide +kernel
theorem dd_Gd_follow_57 : decode cc_Gd_follow 57 = .ok (.invokevirtual 25, 3) := by decide +kernel
theorem dd_Gd_follow_60 : decode cc_Gd_follow 60 = .ok (.imul, 1) := by decide +kernel
theorem dd_Gd_follow_61 : decode cc_Gd_follow 61 = .ok (.invokestatic 29, 3) := by decide +kernel
theorem dd_Gd_follow_64 : decode cc_Gd_follow 64 = .ok (.iadd, 1) := by decide +kernel
theorem dd_Gd_follow_65 : decode cc_Gd_follow 65 = .ok (.bipush 10, 2) := by decide +kernel
theorem dd_Gd_follow_67 : decode cc_Gd_follow 67 = .ok (.irem, 1) := by decide +kernel
theorem dd_Gd_follow_68 : decode cc_Gd_follow 68 = .ok (.ireturn, 1) := by decide +kernel
theorem dd_Gd_follow_69 : decode cc_Gd_follow 69 = .ok (.iload_n 1, 1) := by decide +kernel
theorem dd_Gd_follow_70 : decode cc_Gd_follow 70 = .ok (.aload_n 0, 1) := by decide +kernel
theorem dd_Gd_follow_71 : decode cc_Gd_follow 71 = .ok (.getfield 15, 3) := by decide +kernel
theorem dd_Gd_follow_74 : decode cc_Gd_follow 74 = .ok (.imul, 1) := by decide +kernel
theorem dd_Gd_follow_75 : decode cc_Gd_follow 75 = .ok (.iload_n 3, 1) := by decide +kernel
theorem dd_Gd_follow_76 : decode cc_Gd_follow 76 = .ok (.iadd, 1) := by decide +kernel
theorem dd_Gd_follow_77 : decode cc_Gd_follow 77 = .ok (.aload_n 0, 1) := by decide +kernel
theorem dd_Gd_follow_78 : decode cc_Gd_follow 78 = .ok (.getfield 18, 3) := by decide +kernel
theorem dd_Gd_follow_81 : decode cc_Gd_follow 81 = .ok (.iadd, 1) := by decide +kernel
theorem dd_Gd_follow_82 : decode cc_Gd_follow 82 = .ok (.bipush 10, 2) := by decide +kernel
theorem dd_Gd_follow_84 : decode cc_Gd_follow 84 = .ok (.irem, 1) := by decide +kernel
theorem dd_Gd_follow_85 : decode cc_Gd_follow 85 = .ok (.ireturn, 1) := by decide +kernel
theorem dd_Gd_follow_86 : decode cc_Gd_follow 86 = .ok (.iload_n 1, 1) := by decide +kernel
theorem dd_Gd_follow_87 : decode cc_Gd_follow 87 = .ok (.iload_n 3, 1) := by decide +kernel
theorem dd_Gd_follow_88 : decode cc_Gd_follow 88 = .ok (.aload_n 0, 1) := by decide +kernel
theorem dd_Gd_follow_89 : decode cc_Gd_follow 89 = .ok (.iload 4, 2) := by decide +kernel
theorem dd_Gd_follow_91 : decode cc_Gd_follow 91 = .ok (.iconst 1, 1) := by decide +kernel
theorem dd_Gd_follow_92 : decode cc_Gd_follow 92 = .ok (.isub, 1) := by decide +kernel
theorem dd_Gd_follow_93 : decode cc_Gd_follow 93 = .ok (.iload_n 2, 1) := by decide +kernel
theorem dd_Gd_follow_94 : decode cc_Gd_follow 94 = .ok (.isub, 1) := by decide +kernel
theorem dd_Gd_follow_95 : decode cc_Gd_follow 95 = .ok (.invokevirtual 25, 3) := by decide +kernel
theorem dd_Gd_follow_98 : decode cc_Gd_follow 98 = .ok (.imul, 1) := by decide +kernel
theorem dd_Gd_follow_99 : decode cc_Gd_follow 99 = .ok (.iadd, 1) := by decide +kernel
theorem dd_Gd_follow_100 : decode cc_Gd_follow 100 = .ok (.bipush 11, 2) := by decide +kernel
theorem dd_Gd_follow_102 : decode cc_Gd_follow 102 = .ok (.irem, 1) := by decide +kernel
theorem dd_Gd_follow_103 : decode cc_Gd_follow 103 = .ok (.ireturn, 1) := by decide +kernel
theorem dd_Gd_follow_104 : decode cc_Gd_follow 104 = .ok (.iload_n 1, 1) := by decide +kernel
theorem dd_Gd_follow_105 : decode cc_Gd_follow 105 = .ok (.iload_n 3, 1) := by decide +kernel
theorem dd_Gd_follow_106 : decode cc_Gd_follow 106 = .ok (.aload_n 0, 1) := by decide +kernel
theorem dd_Gd_follow_107 : decode cc_Gd_follow 107 = .ok (.iload_n 2, 1) := by decide +kernel
theorem dd_Gd_follow_108 : decode cc_Gd_follow 108 = .ok (.invokevirtual 25, 3) := by decide +kernel
theorem dd_Gd_follow_111 : decode cc_Gd_follow 111 = .ok (.imul, 1) := by decide +kernel
theorem dd_Gd_follow_112 : decode cc_Gd_follow 112 = .ok (.iadd, 1) := by decide +kernel
theorem dd_Gd_follow_113 : decode cc_Gd_follow 113 = .ok (.bipush 10, 2) := by decide +kernel
theorem dd_Gd_follow_115 : decode cc_Gd_follow 115 = .ok (.irem, 1) := by decide +kernel
theorem dd_Gd_follow_116 : decode cc_Gd_follow 116 = .ok (.ireturn, 1) := by decide +kernel
set_option maxRecDepth 100000 in
set_option maxHeartbeats 4000000 in
theorem ct_Gd_follow (l : Launch) (E : gf_E) (g s p f n : Int) (μ : gf_M) (hg : gf_oGd g) (hG : gf_okG μ g) (hs : 0 ≤ s ∧ s ≤ 10) (hp : 0 ≤ p ∧ p < n ∧ n ≤ 8) (hf : 0 ≤ f ∧ f ≤ 9) : gf_Mi l E yy_Gd_follow cc_Gd_follow 5 .int (gf_rm 1 21) 81 gf_ref μ [.ref (gf_ad E g), .int (gf_i s), .int (gf_i p), .int (gf_i f), .int (gf_i n)] (fun r μ' => (r = pf_fol (μ g 0) (μ g 1) (μ g 2) s p f n ∧ 0 ≤ r ∧ r ≤ 10) ∧ μ' = μ) := by
  refine gf_mi (by decide +kernel) (Nat.le_of_ble_eq_true rfl) (by decide) (fun X Q hlx C hQ => ?_)
  subst hlx
  replace C : gf_C X E cc_Gd_follow 5 "GuardFigures$Guard" (gf_rm 1 21) := C
  show gf_G X E Q 5 gf_φ μ 0 [(0, .ref (gf_ad E g)), (1, .int (gf_i s)), (2, .int (gf_i p)), (3, .int (gf_i f)), (4, .int (gf_i n))] []
  have hG0 := hG
  obtain ⟨hk0, hk1, hk2⟩ := hG
  have hsf := pf_mulb hs hk1
  refine gf_aload_n C dd_Gd_follow_0 0 rfl ?_
  refine gf_getI (z := 0) C gf_cl0 fl_Gd_9 dd_Gd_follow_1 rfl rfl hg (fun hv1 => ?_)
  rcases (show (μ g 0) = 1 ∨ (μ g 0) = 2 ∨ (μ g 0) = 3 ∨ (μ g 0) = 4 ∨ (μ g 0) = 5 ∨ ¬ (1 ≤ (μ g 0) ∧ (μ g 0) ≤ 5) by omega) with hsw4 | hsw4 | hsw4 | hsw4 | hsw4 | hsw4
  · refine gf_cv hsw4 ?_
    refine gf_tblI 40 C dd_Gd_follow_4 (by decide) (by decide) (by decide) rfl (by decide) ?_
    refine gf_iload_n C dd_Gd_follow_40 1 rfl ?_
    refine gf_iload_n C dd_Gd_follow_41 3 rfl ?_
    refine gf_aload_n C dd_Gd_follow_42 0 rfl ?_
    refine gf_iload_n C dd_Gd_follow_43 2 rfl ?_
    refine gf_callVi (st := [.int (gf_i f), .int (gf_i s)]) (As := [.int (gf_i p)]) C wk_Gd_25 gf_cl0 hg (ct_Gd_weight (gf_xl X) E g p μ hg (hG0) (by omega)) rfl ⟨rfl, rfl, rfl, rfl⟩ (Nat.le_of_ble_eq_true rfl) rfl dd_Gd_follow_44 (fun r44 m44 hR44 hp44 => ?_)
    have hr44 := hp44.1
    refine gf_pm hp44.2 ?_
    have hq44 := pf_mulb hf (show 0 ≤ r44 ∧ r44 ≤ 9 from hr44.2)
    refine gf_imul C dd_Gd_follow_47 ?_
    refine gf_iadd C dd_Gd_follow_48 ?_
    refine gf_bipush C dd_Gd_follow_49 (by decide +kernel) ?_
    refine gf_irem C dd_Gd_follow_51 (by omega) ?_
    refine gf_iret C hQ dd_Gd_follow_52 (by omega) ?_
    exact ⟨⟨by simp [pf_fol, hsw4, hr44.1], by omega, by omega⟩, rfl⟩
  · refine gf_cv hsw4 ?_
    refine gf_tblI 53 C dd_Gd_follow_4 (by decide) (by decide) (by decide) rfl (by decide) ?_
    refine gf_iload_n C dd_Gd_follow_53 1 rfl ?_
    refine gf_iload_n C dd_Gd_follow_54 3 rfl ?_
    refine gf_aload_n C dd_Gd_follow_55 0 rfl ?_
    refine gf_iload_n C dd_Gd_follow_56 2 rfl ?_
    refine gf_callVi (st := [.int (gf_i f), .int (gf_i s)]) (As := [.int (gf_i p)]) C wk_Gd_25 gf_cl0 hg (ct_Gd_weight (gf_xl X) E g p μ hg (hG0) (by omega)) rfl ⟨rfl, rfl, rfl, rfl⟩ (Nat.le_of_ble_eq_true rfl) rfl dd_Gd_follow_57 (fun r57 m57 hR57 hp57 => ?_)
    have hr57 := hp57.1
    refine gf_pm hp57.2 ?_
    have hq57 := pf_mulb hf (show 0 ≤ r57 ∧ r57 ≤ 9 from hr57.2)
    refine gf_imul C dd_Gd_follow_60 ?_
    refine gf_callSi (st := [.int (gf_i s)]) (As := [.int (gf_i (f * r57))]) C wk_Gd_29 (ct_Gd_crossSum (gf_xl X) E (f * r57) μ (by omega)) rfl ⟨rfl, rfl, rfl, rfl⟩ (Nat.le_of_ble_eq_true rfl) rfl dd_Gd_follow_61 (fun r61 m61 hR61 hp61 => ?_)
    have hr61 := hp61.1
    refine gf_pm hp61.2 ?_
    refine gf_iadd C dd_Gd_follow_64 ?_
    refine gf_bipush C dd_Gd_follow_65 (by decide +kernel) ?_
    refine gf_irem C dd_Gd_follow_67 (by omega) ?_
    refine gf_iret C hQ dd_Gd_follow_68 (by omega) ?_
    exact ⟨⟨by simp [pf_fol, hsw4, hr61.1, hr57.1], by omega, by omega⟩, rfl⟩
  · refine gf_cv hsw4 ?_
    refine gf_tblI 69 C dd_Gd_follow_4 (by decide) (by decide) (by decide) rfl (by decide) ?_
    refine gf_iload_n C dd_Gd_follow_69 1 rfl ?_
    refine gf_aload_n C dd_Gd_follow_70 0 rfl ?_
    refine gf_getI (z := 1) C gf_cl0 fl_Gd_15 dd_Gd_follow_71 rfl rfl hg (fun hv71 => ?_)
    refine gf_imul C dd_Gd_follow_74 ?_
    refine gf_iload_n C dd_Gd_follow_75 3 rfl ?_
    refine gf_iadd C dd_Gd_follow_76 ?_
    refine gf_aload_n C dd_Gd_follow_77 0 rfl ?_
    refine gf_getI (z := 2) C gf_cl0 fl_Gd_18 dd_Gd_follow_78 rfl rfl hg (fun hv78 => ?_)
    refine gf_iadd C dd_Gd_follow_81 ?_
    refine gf_bipush C dd_Gd_follow_82 (by decide +kernel) ?_
    refine gf_irem C dd_Gd_follow_84 (by omega) ?_
    refine gf_iret C hQ dd_Gd_follow_85 (by omega) ?_
    exact ⟨⟨by simp [pf_fol, hsw4], by omega, by omega⟩, rfl⟩
  · refine gf_cv hsw4 ?_
    refine gf_tblI 86 C dd_Gd_follow_4 (by decide) (by decide) (by decide) rfl (by decide) ?_
    refine gf_iload_n C dd_Gd_follow_86 1 rfl ?_
    refine gf_iload_n C dd_Gd_follow_87 3 rfl ?_
    refine gf_aload_n C dd_Gd_follow_88 0 rfl ?_
    refine gf_iload C dd_Gd_follow_89 4 rfl ?_
    refine gf_iconst C dd_Gd_follow_91 ?_
    refine gf_isub C dd_Gd_follow_92 ?_
    refine gf_iload_n C dd_Gd_follow_93 2 rfl ?_
    refine gf_isub C dd_Gd_follow_94 ?_
    refine gf_callVi (st := [.int (gf_i f), .int (gf_i s)]) (As := [.int (gf_i ((n - 1) - p))]) C wk_Gd_25 gf_cl0 hg (ct_Gd_weight (gf_xl X) E g ((n - 1) - p) μ hg (hG0) (by omega)) rfl ⟨rfl, rfl, rfl, rfl⟩ (Nat.le_of_ble_eq_true rfl) rfl dd_Gd_follow_95 (fun r95 m95 hR95 hp95 => ?_)
    have hr95 := hp95.1
    refine gf_pm hp95.2 ?_
    have hq95 := pf_mulb hf (show 0 ≤ r95 ∧ r95 ≤ 9 from hr95.2)
    refine gf_imul C dd_Gd_follow_98 ?_
    refine gf_iadd C dd_Gd_follow_99 ?_
    refine gf_bipush C dd_Gd_follow_100 (by decide +kernel) ?_
    refine gf_irem C dd_Gd_follow_102 (by omega) ?_
    refine gf_iret C hQ dd_Gd_follow_103 (by omega) ?_
    exact ⟨⟨by simp [pf_fol, hsw4, hr95.1], by omega, by omega⟩, rfl⟩
  · refine gf_cv hsw4 ?_
    refine gf_tblI 53 C dd_Gd_follow_4 (by decide) (by decide) (by decide) rfl (by decide) ?_
    refine gf_iload_n C dd_Gd_follow_53 1 rfl ?_
    refine gf_iload_n C dd_Gd_follow_54 3 rfl ?_
    refine gf_aload_n C dd_Gd_follow_55 0 rfl ?_
    refine gf_iload_n C dd_Gd_follow_56 2 rfl ?_
    refine gf_callVi (st := [.int (gf_i f), .int (gf_i s)]) (As := [.int (gf_i p)]) C wk_Gd_25 gf_cl0 hg (ct_Gd_weight (gf_xl X) E g p μ hg (hG0) (by omega)) rfl ⟨rfl, rfl, rfl, rfl⟩ (Nat.le_of_ble_eq_true rfl) rfl dd_Gd_follow_57 (fun r57 m57 hR57 hp57 => ?_)
    have hr57 := hp57.1
    refine gf_pm hp57.2 ?_
    have hq57 := pf_mulb hf (show 0 ≤ r57 ∧ r57 ≤ 9 from hr57.2)
    refine gf_imul C dd_Gd_follow_60 ?_
    refine gf_callSi (st := [.int (gf_i s)]) (As := [.int (gf_i (f * r57))]) C wk_Gd_29 (ct_Gd_crossSum (gf_xl X) E (f * r57) μ (by omega)) rfl ⟨rfl, rfl, rfl, rfl⟩ (Nat.le_of_ble_eq_true rfl) rfl dd_Gd_follow_61 (fun r61 m61 hR61 hp61 => ?_)
    have hr61 := hp61.1
    refine gf_pm hp61.2 ?_
    refine gf_iadd C dd_Gd_follow_64 ?_
    refine gf_bipush C dd_Gd_follow_65 (by decide +kernel) ?_
    refine gf_irem C dd_Gd_follow_67 (by omega) ?_
    refine gf_iret C hQ dd_Gd_follow_68 (by omega) ?_
    exact ⟨⟨by simp [pf_fol, hsw4, hr61.1, hr57.1], by omega, by omega⟩, rfl⟩
  · refine gf_tblO 104 C dd_Gd_follow_4 (by omega) (by omega) (by decide) ?_
    refine gf_iload_n C dd_Gd_follow_104 1 rfl ?_
    refine gf_iload_n C dd_Gd_follow_105 3 rfl ?_
    refine gf_aload_n C dd_Gd_follow_106 0 rfl ?_
    refine gf_iload_n C dd_Gd_follow_107 2 rfl ?_
    refine gf_callVi (st := [.int (gf_i f), .int (gf_i s)]) (As := [.int (gf_i p)]) C wk_Gd_25 gf_cl0 hg (ct_Gd_weight (gf_xl X) E g p μ hg (hG0) (by omega)) rfl ⟨rfl, rfl, rfl, rfl⟩ (Nat.le_of_ble_eq_true rfl) rfl dd_Gd_follow_108 (fun r108 m108 hR108 hp108 => ?_)
    have hr108 := hp108.1
    refine gf_pm hp108.2 ?_
    have hq108 := pf_mulb hf (show 0 ≤ r108 ∧ r108 ≤ 9 from hr108.2)
    refine gf_imul C dd_Gd_follow_111 ?_
    refine gf_iadd C dd_Gd_follow_112 ?_
    refine gf_bipush C dd_Gd_follow_113 (by decide +kernel) ?_
    refine gf_irem C dd_Gd_follow_115 (by omega) ?_
    refine gf_iret C hQ dd_Gd_follow_116 (by omega) ?_
    have e : μ g 0 = 0 := by omega
    exact ⟨⟨by simp [pf_fol, e, hr108.1], by omega, by omega⟩, rfl⟩

theorem dd_Gd_reckon_0 : decode cc_Gd_reckon 0 = .ok (.iconst 0, 1) := by decide +kernel
theorem dd_Gd_reckon_1 : decode cc_Gd_reckon 1 = .ok (.istore_n 3, 1) := by decide +kernel
theorem dd_Gd_reckon_2 : decode cc_Gd_reckon 2 = .ok (.iconst 0, 1) := by decide +kernel
theorem dd_Gd_reckon_3 : decode cc_Gd_reckon 3 = .ok (.istore 4, 2) := by decide +kernel
theorem dd_Gd_reckon_5 : decode cc_Gd_reckon 5 = .ok (.iload 4, 2) := by decide +kernel
theorem dd_Gd_reckon_7 : decode cc_Gd_reckon 7 = .ok (.iload_n 2, 1) := by decide +kernel
theorem dd_Gd_reckon_8 : decode cc_Gd_reckon 8 = .ok (.if_icmp .ge 22, 3) := by decide +kernel
theorem dd_Gd_reckon_11 : decode cc_Gd_reckon 11 = .ok (.aload_n 0, 1) := by decide +kernel
theorem dd_Gd_reckon_12 : decode cc_Gd_reckon 12 = .ok (.iload_n 3, 1) := by decide +kernel
theorem dd_Gd_reckon_13 : decode cc_Gd_reckon 13 = .ok (.iload 4, 2) := by decide +kernel
theorem dd_Gd_reckon_15 : decode cc_Gd_reckon 15 = .ok (.aload_n 1, 1) := by decide +kernel
theorem dd_Gd_reckon_16 : decode cc_Gd_reckon 16 = .ok (.iload 4, 2) := by decide +kernel
theorem dd_Gd_reckon_18 : decode cc_Gd_reckon 18 = .ok (.iaload, 1) := by decide +kernel
theorem dd_Gd_reckon_19 : decode cc_Gd_reckon 19 = .ok (.iload_n 2, 1) := by decide +kernel
theorem dd_Gd_reckon_20 : decode cc_Gd_reckon 20 = .ok (.invokevirtual 32, 3) := by decide +kernel
theorem dd_Gd_reckon_23 : decode cc_Gd_reckon 23 = .ok (.istore_n 3, 1) := by decide +kernel
theorem dd_Gd_reckon_24 : decode cc_Gd_reckon 24 = .ok (.iinc 4 1, 3) := by decide +kernel
theorem dd_Gd_reckon_27 : decode cc_Gd_reckon 27 = .ok (.goto (-22), 3) := by decide +kernel
theorem dd_Gd_reckon_30 : decode cc_Gd_reckon 30 = .ok (.aload_n 0, 1) := by decide +kernel
theorem dd_Gd_reckon_31 : decode cc_Gd_reckon 31 = .ok (.iload_n 3, 1) := by decide +kernel
theorem dd_Gd_reckon_32 : decode cc_Gd_reckon 32 = .ok (.iload_n 2, 1) := by decide +kernel
theorem dd_Gd_reckon_33 : decode cc_Gd_reckon 33 = .ok (.invokevirtual 36, 3) := by decide +kernel
theorem dd_Gd_reckon_36 : decode cc_Gd_reckon 36 = .ok (.ireturn, 1) := by decide +kernel
set_option maxRecDepth 100000 in
set_option maxHeartbeats 4000000 in
theorem ct_Gd_reckon (l : Launch) (E : gf_E) (g a n : Int) (N : Nat) (μ : gf_M) (hg : gf_oGd g) (hG : gf_okG μ g) (ha : gf_is 81 a 1 0 N) (hn : 0 ≤ n ∧ n ≤ 8 ∧ n ≤ (N : Int)) (hF : gf_okF μ a n) : gf_Mi l E yy_Gd_reckon cc_Gd_reckon 5 .int (gf_rm 2 45) 81 gf_ref μ [.ref (gf_ad E g), .ref (gf_ad E a), .int (gf_i n)] (fun r μ' => (r = pf_reck (μ g 0) (μ g 1) (μ g 2) (μ a) n ∧ 0 ≤ r ∧ r ≤ 10) ∧ μ' = μ) := by
  refine gf_mi (by decide +kernel) (Nat.le_of_ble_eq_true rfl) (by decide) (fun X Q hlx C hQ => ?_)
  subst hlx
  replace C : gf_C X E cc_Gd_reckon 5 "GuardFigures$Guard" (gf_rm 2 45) := C
  show gf_G X E Q 5 gf_φ μ 0 [(0, .ref (gf_ad E g)), (1, .ref (gf_ad E a)), (2, .int (gf_i n))] []
  refine gf_iconst C dd_Gd_reckon_0 ?_
  refine gf_istore_n (lv' := [(3, .int (gf_i 0)), (0, .ref (gf_ad E g)), (1, .ref (gf_ad E a)), (2, .int (gf_i n))]) C dd_Gd_reckon_1 (by decide) rfl ?_
  refine gf_iconst C dd_Gd_reckon_2 ?_
  refine gf_istore (lv' := [(4, .int (gf_i 0)), (3, .int (gf_i 0)), (0, .ref (gf_ad E g)), (1, .ref (gf_ad E a)), (2, .int (gf_i n))]) C dd_Gd_reckon_3 (by decide) rfl ?_
  have L5_1 : ∀ (N : Nat) (s i : Int) , (0 ≤ i ∧ i ≤ n ∧ s = pf_rec (μ g 0) (μ g 1) (μ g 2) (μ a) n i.toNat) → (n - i).toNat < N → gf_G X E Q 5 gf_φ μ 5 [(3, .int (gf_i s)), (4, .int (gf_i i)), (0, .ref (gf_ad E g)), (1, .ref (gf_ad E a)), (2, .int (gf_i n))] [] := by
    intro N
    induction N with
    | zero => intro s i hinv hN; exact absurd hN (Nat.not_lt_zero _)
    | succ N ih5_1 =>
      intro s i hinv hN
      have hinv0 := hinv
      obtain ⟨hi0, hi1, hs⟩ := hinv
      have hsR := pf_rec_R (μ g 0) (μ g 1) (μ g 2) (μ a) n i.toNat
      rw [← hs] at hsR
      refine gf_iload C dd_Gd_reckon_5 1 rfl ?_
      refine gf_iload_n C dd_Gd_reckon_7 4 rfl ?_
      refine gf_icmp_ge 30 C dd_Gd_reckon_8 (by decide) (by omega) (by omega) (fun h8 => ?_) (fun h8 => ?_)
      · skip
        refine gf_aload_n C dd_Gd_reckon_30 2 rfl ?_
        refine gf_iload_n C dd_Gd_reckon_31 0 rfl ?_
        refine gf_iload_n C dd_Gd_reckon_32 4 rfl ?_
        refine gf_callVi (st := []) (As := [.int (gf_i s), .int (gf_i n)]) C wk_Gd_36 gf_cl0 hg (ct_Gd_finish (gf_xl X) E g s n μ hg (hG) (by omega) (by omega)) rfl ⟨rfl, rfl, rfl, rfl⟩ (Nat.le_of_ble_eq_true rfl) rfl dd_Gd_reckon_33 (fun r33 m33 hR33 hp33 => ?_)
        have hr33 := hp33.1
        refine gf_pm hp33.2 ?_
        refine gf_iret C hQ dd_Gd_reckon_36 (by omega) ?_
        refine ⟨⟨?_, by omega, by omega⟩, rfl⟩
        rw [hr33.1, hs, show i = n by omega]
        rfl
      · skip
        refine gf_aload_n C dd_Gd_reckon_11 2 rfl ?_
        refine gf_iload_n C dd_Gd_reckon_12 0 rfl ?_
        refine gf_iload C dd_Gd_reckon_13 1 rfl ?_
        refine gf_aload_n C dd_Gd_reckon_15 3 rfl ?_
        refine gf_iload C dd_Gd_reckon_16 1 rfl ?_
        have hfi := hF i (by omega) (by omega)
        refine gf_iald C dd_Gd_reckon_18 ha (by omega) (fun hv18 => ?_)
        refine gf_iload_n C dd_Gd_reckon_19 4 rfl ?_
        refine gf_callVi (st := []) (As := [.int (gf_i s), .int (gf_i i), .int (gf_i (μ a i)), .int (gf_i n)]) C wk_Gd_32 gf_cl0 hg (ct_Gd_follow (gf_xl X) E g s i (μ a i) n μ hg (hG) (by omega) (by omega) (by omega)) rfl ⟨rfl, rfl, rfl, rfl⟩ (Nat.le_of_ble_eq_true rfl) rfl dd_Gd_reckon_20 (fun r20 m20 hR20 hp20 => ?_)
        have hr20 := hp20.1
        refine gf_pm hp20.2 ?_
        refine gf_istore_n (lv' := [(3, .int (gf_i r20)), (4, .int (gf_i i)), (0, .ref (gf_ad E g)), (1, .ref (gf_ad E a)), (2, .int (gf_i n))]) C dd_Gd_reckon_23 (by decide) rfl ?_
        obtain ⟨x24, hx24⟩ : ∃ y : Int, y = i + 1 := ⟨_, rfl⟩
        refine gf_iinc (q := 1) (v := x24) (lv' := [(4, .int (gf_i x24)), (3, .int (gf_i r20)), (0, .ref (gf_ad E g)), (1, .ref (gf_ad E a)), (2, .int (gf_i n))]) C dd_Gd_reckon_24 rfl hx24 (by decide) rfl ?_
        refine gf_goto 5 C dd_Gd_reckon_27 (by decide) ?_
        refine gf_lsub [1, 0, 2, 3, 4] rfl ?_
        exact ih5_1 r20 x24 (by
                refine ⟨by omega, by omega, ?_⟩
                rw [hr20.1, hx24, show (i + 1).toNat = i.toNat + 1 by omega, hs]
                show _ = pf_fol _ _ _ _ ((i.toNat : Nat) : Int) (μ a ((i.toNat : Nat) : Int)) n
                rw [show ((i.toNat : Nat) : Int) = i by omega]) (by omega)
  refine gf_lsub [1, 0, 2, 3, 4] rfl ?_
  exact L5_1 _ 0 0 (⟨by omega, by omega, rfl⟩) (Nat.lt_succ_self _)

theorem dd_Gd_is_0 : decode cc_Gd_is 0 = .ok (.aload_n 0, 1) := by decide +kernel
theorem dd_Gd_is_1 : decode cc_Gd_is 1 = .ok (.getfield 9, 3) := by decide +kernel
theorem dd_Gd_is_4 : decode cc_Gd_is 4 = .ok (.istore_n 2, 1) := by decide +kernel
theorem dd_Gd_is_5 : decode cc_Gd_is 5 = .ok (.iconst 0, 1) := by decide +kernel
theorem dd_Gd_is_6 : decode cc_Gd_is 6 = .ok (.istore_n 3, 1) := by decide +kernel
theorem dd_Gd_is_7 : decode cc_Gd_is 7 = .ok (.iload_n 3, 1) := by decide +kernel
theorem dd_Gd_is_8 : decode cc_Gd_is 8 = .ok (.bipush 6, 2) := by decide +kernel
theorem dd_Gd_is_10 : decode cc_Gd_is 10 = .ok (.if_icmp .ge 26, 3) := by decide +kernel
theorem dd_Gd_is_13 : decode cc_Gd_is 13 = .ok (.iload_n 2, 1) := by decide +kernel
theorem dd_Gd_is_14 : decode cc_Gd_is 14 = .ok (.ifCond .lt 22, 3) := by decide +kernel
theorem dd_Gd_is_17 : decode cc_Gd_is 17 = .ok (.iload_n 2, 1) := by decide +kernel
theorem dd_Gd_is_18 : decode cc_Gd_is 18 = .ok (.iload_n 1, 1) := by decide +kernel
theorem dd_Gd_is_19 : decode cc_Gd_is 19 = .ok (.if_icmp .ne 5, 3) := by decide +kernel
theorem dd_Gd_is_22 : decode cc_Gd_is 22 = .ok (.iconst 1, 1) := by decide +kernel
theorem dd_Gd_is_23 : decode cc_Gd_is 23 = .ok (.ireturn, 1) := by decide +kernel
theorem dd_Gd_is_24 : decode cc_Gd_is 24 = .ok (.getstatic 21, 3) := by decide +kernel
theorem dd_Gd_is_27 : decode cc_Gd_is 27 = .ok (.iload_n 2, 1) := by decide +kernel
theorem dd_Gd_is_28 : decode cc_Gd_is 28 = .ok (.iaload, 1) := by decide +kernel
theorem dd_Gd_is_29 : decode cc_Gd_is 29 = .ok (.istore_n 2, 1) := by decide +kernel
theorem dd_Gd_is_30 : decode cc_Gd_is 30 = .ok (.iinc 3 1, 3) := by decide +kernel
theorem dd_Gd_is_33 : decode cc_Gd_is 33 = .ok (.goto (-26), 3) := by decide +kernel
theorem dd_Gd_is_36 : decode cc_Gd_is 36 = .ok (.iconst 0, 1) := by decide +kernel
theorem dd_Gd_is_37 : decode cc_Gd_is 37 = .ok (.ireturn, 1) := by decide +kernel
set_option maxRecDepth 100000 in
set_option maxHeartbeats 4000000 in
theorem ct_Gd_is (l : Launch) (E : gf_E) (g w : Int) (μ : gf_M) (hg : gf_oGd g) (hG : gf_okG μ g) (hw : 0 ≤ w ∧ w ≤ 5) : gf_Mi l E yy_Gd_is cc_Gd_is 4 .boolean (gf_rm 0 0) 81 gf_ref μ [.ref (gf_ad E g), .int (gf_i w)] (fun r μ' => ((pf_is (μ g 0) w → r = 1) ∧ (¬ pf_is (μ g 0) w → r = 0)) ∧ μ' = μ) := by
  refine gf_mi (by decide +kernel) (Nat.le_of_ble_eq_true rfl) (by decide) (fun X Q hlx C hQ => ?_)
  subst hlx
  replace C : gf_C X E cc_Gd_is 4 "GuardFigures$Guard" (gf_rm 0 0) := C
  show gf_G X E Q 4 gf_φ μ 0 [(0, .ref (gf_ad E g)), (1, .int (gf_i w))] []
  obtain ⟨hk0, hk1, hk2⟩ := hG
  refine gf_aload_n C dd_Gd_is_0 0 rfl ?_
  refine gf_getI (z := 0) C gf_cl0 fl_Gd_9 dd_Gd_is_1 rfl rfl hg (fun hv1 => ?_)
  refine gf_nm (fun x4 hx4 => ?_)
  refine gf_istore_n (lv' := [(2, .int (gf_i x4)), (0, .ref (gf_ad E g)), (1, .int (gf_i w))]) C dd_Gd_is_4 (by decide) rfl ?_
  refine gf_iconst C dd_Gd_is_5 ?_
  refine gf_istore_n (lv' := [(3, .int (gf_i 0)), (2, .int (gf_i x4)), (0, .ref (gf_ad E g)), (1, .int (gf_i w))]) C dd_Gd_is_6 (by decide) rfl ?_
  have L7_1 : ∀ (N : Nat) (o u : Int) , (0 ≤ u ∧ ((o = -1 ∧ u ≤ 3) ∨ (o = 0 ∧ u ≤ 2) ∨ (1 ≤ o ∧ o ≤ 3 ∧ u ≤ 1) ∨ (4 ≤ o ∧ o ≤ 5 ∧ u ≤ 0)) ∧ (pf_is (μ g 0) w ↔ pf_is o w)) → (6 - u).toNat < N → gf_G X E Q 4 gf_φ μ 7 [(2, .int (gf_i o)), (3, .int (gf_i u)), (0, .ref (gf_ad E g)), (1, .int (gf_i w))] [] := by
    intro N
    induction N with
    | zero => intro o u hinv hN; exact absurd hN (Nat.not_lt_zero _)
    | succ N ih7_1 =>
      intro o u hinv hN
      have hinv0 := hinv
      obtain ⟨hu0, hu1, hu2⟩ := hinv
      refine gf_iload_n C dd_Gd_is_7 1 rfl ?_
      refine gf_bipush C dd_Gd_is_8 (by decide +kernel) ?_
      refine gf_icmp_ge 36 C dd_Gd_is_10 (by decide) (by omega) (by omega) (fun h10 => ?_) (fun h10 => ?_)
      · skip
        refine gf_iconst C dd_Gd_is_36 ?_
        refine gf_zret C hQ dd_Gd_is_37 (by omega) ?_
        refine ⟨⟨fun h => ?_, fun _ => rfl⟩, rfl⟩
        exact absurd (hu2.mp h) (by unfold pf_is; omega)
      · skip
        refine gf_iload_n C dd_Gd_is_13 0 rfl ?_
        refine gf_if_lt 36 C dd_Gd_is_14 (by decide) (by omega) (fun h14 => ?_) (fun h14 => ?_)
        · skip
          refine gf_iconst C dd_Gd_is_36 ?_
          refine gf_zret C hQ dd_Gd_is_37 (by omega) ?_
          refine ⟨⟨fun h => ?_, fun _ => rfl⟩, rfl⟩
          exact absurd (hu2.mp h) (by unfold pf_is; omega)
        · skip
          refine gf_iload_n C dd_Gd_is_17 0 rfl ?_
          refine gf_iload_n C dd_Gd_is_18 3 rfl ?_
          refine gf_icmp_ne 24 C dd_Gd_is_19 (by decide) (by omega) (by omega) (fun h19 => ?_) (fun h19 => ?_)
          · skip
            refine gf_getsA C dd_Gd_is_24 ?_
            have hab := pf_above (x := o) (by omega)
            refine gf_iload_n C dd_Gd_is_27 0 rfl ?_
            refine gf_tldA C dd_Gd_is_28 (by omega) ?_
            refine gf_nm (fun x29 hx29 => ?_)
            refine gf_istore_n (lv' := [(2, .int (gf_i x29)), (3, .int (gf_i u)), (0, .ref (gf_ad E g)), (1, .int (gf_i w))]) C dd_Gd_is_29 (by decide) rfl ?_
            obtain ⟨x30, hx30⟩ : ∃ y : Int, y = u + 1 := ⟨_, rfl⟩
            refine gf_iinc (q := 1) (v := x30) (lv' := [(3, .int (gf_i x30)), (2, .int (gf_i x29)), (0, .ref (gf_ad E g)), (1, .int (gf_i w))]) C dd_Gd_is_30 rfl hx30 (by decide) rfl ?_
            refine gf_goto 7 C dd_Gd_is_33 (by decide) ?_
            refine gf_lsub [1, 0, 2, 3] rfl ?_
            exact ih7_1 x29 x30 (by
                    refine ⟨by omega, ?_, hu2.trans ?_⟩
                    · omega
                    · unfold pf_is; omega) (by omega)
          · skip
            refine gf_iconst C dd_Gd_is_22 ?_
            refine gf_zret C hQ dd_Gd_is_23 (by omega) ?_
            refine ⟨⟨fun _ => rfl, fun h => absurd (hu2.mpr ?_) h⟩, rfl⟩
            unfold pf_is; omega
  refine gf_lsub [1, 0, 2, 3] rfl ?_
  exact L7_1 _ x4 0 (⟨by omega, by omega, by rw [hx4]⟩) (Nat.lt_succ_self _)

theorem dd_Gd_resemble_0 : decode cc_Gd_resemble 0 = .ok (.aload_n 0, 1) := by decide +kernel
theorem dd_Gd_resemble_1 : decode cc_Gd_resemble 1 = .ok (.aload_n 1, 1) := by decide +kernel
theorem dd_Gd_resemble_2 : decode cc_Gd_resemble 2 = .ok (.getfield 9, 3) := by decide +kernel
theorem dd_Gd_resemble_5 : decode cc_Gd_resemble 5 = .ok (.putfield 9, 3) := by decide +kernel
theorem dd_Gd_resemble_8 : decode cc_Gd_resemble 8 = .ok (.aload_n 0, 1) := by decide +kernel
theorem dd_Gd_resemble_9 : decode cc_Gd_resemble 9 = .ok (.aload_n 1, 1) := by decide +kernel
theorem dd_Gd_resemble_10 : decode cc_Gd_resemble 10 = .ok (.getfield 15, 3) := by decide +kernel
theorem dd_Gd_resemble_13 : decode cc_Gd_resemble 13 = .ok (.putfield 15, 3) := by decide +kernel
theorem dd_Gd_resemble_16 : decode cc_Gd_resemble 16 = .ok (.aload_n 0, 1) := by decide +kernel
theorem dd_Gd_resemble_17 : decode cc_Gd_resemble 17 = .ok (.aload_n 1, 1) := by decide +kernel
theorem dd_Gd_resemble_18 : decode cc_Gd_resemble 18 = .ok (.getfield 18, 3) := by decide +kernel
theorem dd_Gd_resemble_21 : decode cc_Gd_resemble 21 = .ok (.putfield 18, 3) := by decide +kernel
theorem dd_Gd_resemble_24 : decode cc_Gd_resemble 24 = .ok (.return_, 1) := by decide +kernel
set_option maxRecDepth 100000 in
set_option maxHeartbeats 4000000 in
theorem ct_Gd_resemble (l : Launch) (E : gf_E) (g h : Int) (μ : gf_M) (hg : gf_oGd g) (hh : gf_oGd h) : gf_Mv l E yy_Gd_resemble cc_Gd_resemble 2 (gf_rm 0 0) 81 gf_ref 0 0 81 gf_ref μ [.ref (gf_ad E g), .ref (gf_ad E h)] (fun μ' => μ' = gf_up (gf_up (gf_up μ g 0 (μ h 0)) g 1 (μ h 1)) g 2 (μ h 2)) := by
  refine gf_mv (by decide +kernel) (Nat.le_of_ble_eq_true rfl) (by decide) (fun X Q hlx C hname hQ => ?_)
  subst hlx
  replace C : gf_C X E cc_Gd_resemble 2 "GuardFigures$Guard" (gf_rm 0 0) := C
  show gf_G X E Q 2 gf_φ μ 0 [(0, .ref (gf_ad E g)), (1, .ref (gf_ad E h))] []
  refine gf_aload_n C dd_Gd_resemble_0 0 rfl ?_
  refine gf_aload_n C dd_Gd_resemble_1 1 rfl ?_
  refine gf_getI (z := 0) C gf_cl0 fl_Gd_9 dd_Gd_resemble_2 rfl rfl hh (fun hv2 => ?_)
  refine gf_putI (z := 0) C gf_cl0 fl_Gd_9 dd_Gd_resemble_5 rfl rfl rfl (by decide +kernel) hg (by omega) ?_
  refine gf_nmM (fun m5 hm5 => ?_)
  refine gf_aload_n C dd_Gd_resemble_8 0 rfl ?_
  refine gf_aload_n C dd_Gd_resemble_9 1 rfl ?_
  refine gf_getI (z := 1) C gf_cl0 fl_Gd_15 dd_Gd_resemble_10 rfl rfl hh (fun hv10 => ?_)
  refine gf_putI (z := 1) C gf_cl0 fl_Gd_15 dd_Gd_resemble_13 rfl rfl rfl (by decide +kernel) hg (by omega) ?_
  refine gf_nmM (fun m13 hm13 => ?_)
  refine gf_aload_n C dd_Gd_resemble_16 0 rfl ?_
  refine gf_aload_n C dd_Gd_resemble_17 1 rfl ?_
  refine gf_getI (z := 2) C gf_cl0 fl_Gd_18 dd_Gd_resemble_18 rfl rfl hh (fun hv18 => ?_)
  refine gf_putI (z := 2) C gf_cl0 fl_Gd_18 dd_Gd_resemble_21 rfl rfl rfl (by decide +kernel) hg (by omega) ?_
  refine gf_nmM (fun m21 hm21 => ?_)
  refine gf_vret C hQ dd_Gd_resemble_24 ?_
  have e1 : m5 h 1 = μ h 1 := by rw [hm5]; exact gf_up_j (by decide)
  have e2 : m13 h 2 = μ h 2 := by rw [hm13, gf_up_j (by decide), hm5]; exact gf_up_j (by decide)
  rw [hm21, e2, hm13, e1, hm5]
end
section
/-! Row -/
def pf_sum (f : Int → Int) : Nat → Int
  | 0 => 0
  | n + 1 => pf_sum f n + f n
def pf_dig (h : Int) (f : Int → Int) : Nat → Int
  | 0 => h
  | n + 1 => 31 * pf_dig h f n + f n
theorem dd_Ro_isThere_0 : decode cc_Ro_isThere 0 = .ok (.aload_n 0, 1) := by decide +kernel
theorem dd_Ro_isThere_1 : decode cc_Ro_isThere 1 = .ok (.getfield 13, 3) := by decide +kernel
theorem dd_Ro_isThere_4 : decode cc_Ro_isThere 4 = .ok (.iconst (-1), 1) := by decide +kernel
theorem dd_Ro_isThere_5 : decode cc_Ro_isThere 5 = .ok (.if_icmp .eq 7, 3) := by decide +kernel
theorem dd_Ro_isThere_8 : decode cc_Ro_isThere 8 = .ok (.iconst 1, 1) := by decide +kernel
theorem dd_Ro_isThere_9 : decode cc_Ro_isThere 9 = .ok (.goto 4, 3) := by decide +kernel
theorem dd_Ro_isThere_12 : decode cc_Ro_isThere 12 = .ok (.iconst 0, 1) := by decide +kernel
theorem dd_Ro_isThere_13 : decode cc_Ro_isThere 13 = .ok (.ireturn, 1) := by decide +kernel
set_option maxRecDepth 100000 in
set_option maxHeartbeats 4000000 in
theorem ct_Ro_isThere (l : Launch) (E : gf_E) (k : Int) (N : Nat) (μ : gf_M) (hk : gf_oRow k N)  : gf_Mi l E yy_Ro_isThere cc_Ro_isThere 1 .boolean (gf_rm 0 0) 81 gf_ref μ [.ref (gf_ad E k)] (fun r μ' => ((μ k 1 = -1 → r = 0) ∧ (μ k 1 ≠ -1 → r = 1)) ∧ μ' = μ) := by
  refine gf_mi (by decide +kernel) (Nat.le_of_ble_eq_true rfl) (by decide) (fun X Q hlx C hQ => ?_)
  subst hlx
  replace C : gf_C X E cc_Ro_isThere 1 "GuardFigures$Row" (gf_rm 0 0) := C
  show gf_G X E Q 1 gf_φ μ 0 [(0, .ref (gf_ad E k))] []
  refine gf_aload_n C dd_Ro_isThere_0 0 rfl ?_
  refine gf_getI (z := 1) C gf_cl3 fl_Ro_13 dd_Ro_isThere_1 rfl rfl hk.1 (fun hv1 => ?_)
  refine gf_iconst C dd_Ro_isThere_4 ?_
  refine gf_icmp_eq 12 C dd_Ro_isThere_5 (by decide) (by omega) (by omega) (fun h5 => ?_) (fun h5 => ?_)
  · skip
    refine gf_iconst C dd_Ro_isThere_12 ?_
    refine gf_zret C hQ dd_Ro_isThere_13 (by omega) ?_
    exact ⟨⟨by omega, by omega⟩, rfl⟩
  · skip
    refine gf_iconst C dd_Ro_isThere_8 ?_
    refine gf_goto 13 C dd_Ro_isThere_9 (by decide) ?_
    refine gf_zret C hQ dd_Ro_isThere_13 (by omega) ?_
    exact ⟨⟨by omega, by omega⟩, rfl⟩

theorem dd_Ro_hasPlaces_0 : decode cc_Ro_hasPlaces 0 = .ok (.iload_n 1, 1) := by decide +kernel
theorem dd_Ro_hasPlaces_1 : decode cc_Ro_hasPlaces 1 = .ok (.ifCond .lt 25, 3) := by decide +kernel
theorem dd_Ro_hasPlaces_4 : decode cc_Ro_hasPlaces 4 = .ok (.iload_n 2, 1) := by decide +kernel
theorem dd_Ro_hasPlaces_5 : decode cc_Ro_hasPlaces 5 = .ok (.aload_n 0, 1) := by decide +kernel
theorem dd_Ro_hasPlaces_6 : decode cc_Ro_hasPlaces 6 = .ok (.getfield 13, 3) := by decide +kernel
theorem dd_Ro_hasPlaces_9 : decode cc_Ro_hasPlaces 9 = .ok (.if_icmp .gt 17, 3) := by decide +kernel
theorem dd_Ro_hasPlaces_12 : decode cc_Ro_hasPlaces 12 = .ok (.iload_n 1, 1) := by decide +kernel
theorem dd_Ro_hasPlaces_13 : decode cc_Ro_hasPlaces 13 = .ok (.aload_n 0, 1) := by decide +kernel
theorem dd_Ro_hasPlaces_14 : decode cc_Ro_hasPlaces 14 = .ok (.getfield 13, 3) := by decide +kernel
theorem dd_Ro_hasPlaces_17 : decode cc_Ro_hasPlaces 17 = .ok (.iload_n 2, 1) := by decide +kernel
theorem dd_Ro_hasPlaces_18 : decode cc_Ro_hasPlaces 18 = .ok (.isub, 1) := by decide +kernel
theorem dd_Ro_hasPlaces_19 : decode cc_Ro_hasPlaces 19 = .ok (.if_icmp .gt 7, 3) := by decide +kernel
theorem dd_Ro_hasPlaces_22 : decode cc_Ro_hasPlaces 22 = .ok (.iconst 1, 1) := by decide +kernel
theorem dd_Ro_hasPlaces_23 : decode cc_Ro_hasPlaces 23 = .ok (.goto 4, 3) := by decide +kernel
theorem dd_Ro_hasPlaces_26 : decode cc_Ro_hasPlaces 26 = .ok (.iconst 0, 1) := by decide +kernel
theorem dd_Ro_hasPlaces_27 : decode cc_Ro_hasPlaces 27 = .ok (.ireturn, 1) := by decide +kernel
set_option maxRecDepth 100000 in
set_option maxHeartbeats 4000000 in
theorem ct_Ro_hasPlaces (l : Launch) (E : gf_E) (k : Int) (N : Nat) (μ : gf_M) (hk : gf_oRow k N) (a n : Int) (hs : -1 ≤ μ k 1 ∧ μ k 1 ≤ 60) (ha : gf_R a) (hn : 0 ≤ n ∧ n ≤ 2147483647) : gf_Mi l E yy_Ro_hasPlaces cc_Ro_hasPlaces 3 .boolean (gf_rm 0 0) 81 gf_ref μ [.ref (gf_ad E k), .int (gf_i a), .int (gf_i n)] (fun r μ' => ((0 ≤ a ∧ a + n ≤ μ k 1 → r = 1) ∧ (¬ (0 ≤ a ∧ a + n ≤ μ k 1) → r = 0)) ∧ μ' = μ) := by
  refine gf_mi (by decide +kernel) (Nat.le_of_ble_eq_true rfl) (by decide) (fun X Q hlx C hQ => ?_)
  subst hlx
  replace C : gf_C X E cc_Ro_hasPlaces 3 "GuardFigures$Row" (gf_rm 0 0) := C
  show gf_G X E Q 3 gf_φ μ 0 [(0, .ref (gf_ad E k)), (1, .int (gf_i a)), (2, .int (gf_i n))] []
  refine gf_iload_n C dd_Ro_hasPlaces_0 1 rfl ?_
  refine gf_if_lt 26 C dd_Ro_hasPlaces_1 (by decide) (by omega) (fun h1 => ?_) (fun h1 => ?_)
  · skip
    refine gf_iconst C dd_Ro_hasPlaces_26 ?_
    refine gf_zret C hQ dd_Ro_hasPlaces_27 (by omega) ?_
    exact ⟨⟨by omega, by omega⟩, rfl⟩
  · skip
    refine gf_iload_n C dd_Ro_hasPlaces_4 2 rfl ?_
    refine gf_aload_n C dd_Ro_hasPlaces_5 0 rfl ?_
    refine gf_getI (z := 1) C gf_cl3 fl_Ro_13 dd_Ro_hasPlaces_6 rfl rfl hk.1 (fun hv6 => ?_)
    refine gf_icmp_gt 26 C dd_Ro_hasPlaces_9 (by decide) (by omega) (by omega) (fun h9 => ?_) (fun h9 => ?_)
    · skip
      refine gf_iconst C dd_Ro_hasPlaces_26 ?_
      refine gf_zret C hQ dd_Ro_hasPlaces_27 (by omega) ?_
      exact ⟨⟨by omega, by omega⟩, rfl⟩
    · skip
      refine gf_iload_n C dd_Ro_hasPlaces_12 1 rfl ?_
      refine gf_aload_n C dd_Ro_hasPlaces_13 0 rfl ?_
      refine gf_getI (z := 1) C gf_cl3 fl_Ro_13 dd_Ro_hasPlaces_14 rfl rfl hk.1 (fun hv14 => ?_)
      refine gf_iload_n C dd_Ro_hasPlaces_17 2 rfl ?_
      refine gf_isub C dd_Ro_hasPlaces_18 ?_
      refine gf_icmp_gt 26 C dd_Ro_hasPlaces_19 (by decide) (by omega) (by omega) (fun h19 => ?_) (fun h19 => ?_)
      · skip
        refine gf_iconst C dd_Ro_hasPlaces_26 ?_
        refine gf_zret C hQ dd_Ro_hasPlaces_27 (by omega) ?_
        exact ⟨⟨by omega, by omega⟩, rfl⟩
      · skip
        refine gf_iconst C dd_Ro_hasPlaces_22 ?_
        refine gf_goto 27 C dd_Ro_hasPlaces_23 (by decide) ?_
        refine gf_zret C hQ dd_Ro_hasPlaces_27 (by omega) ?_
        exact ⟨⟨by omega, by omega⟩, rfl⟩

theorem dd_Ro_replace_0 : decode cc_Ro_replace 0 = .ok (.aload_n 0, 1) := by decide +kernel
theorem dd_Ro_replace_1 : decode cc_Ro_replace 1 = .ok (.getfield 7, 3) := by decide +kernel
theorem dd_Ro_replace_4 : decode cc_Ro_replace 4 = .ok (.iload_n 1, 1) := by decide +kernel
theorem dd_Ro_replace_5 : decode cc_Ro_replace 5 = .ok (.iaload, 1) := by decide +kernel
theorem dd_Ro_replace_6 : decode cc_Ro_replace 6 = .ok (.istore_n 3, 1) := by decide +kernel
theorem dd_Ro_replace_7 : decode cc_Ro_replace 7 = .ok (.aload_n 0, 1) := by decide +kernel
theorem dd_Ro_replace_8 : decode cc_Ro_replace 8 = .ok (.getfield 7, 3) := by decide +kernel
theorem dd_Ro_replace_11 : decode cc_Ro_replace 11 = .ok (.iload_n 1, 1) := by decide +kernel
theorem dd_Ro_replace_12 : decode cc_Ro_replace 12 = .ok (.iload_n 2, 1) := by decide +kernel
theorem dd_Ro_replace_13 : decode cc_Ro_replace 13 = .ok (.iastore, 1) := by decide +kernel
theorem dd_Ro_replace_14 : decode cc_Ro_replace 14 = .ok (.iload_n 3, 1) := by decide +kernel
theorem dd_Ro_replace_15 : decode cc_Ro_replace 15 = .ok (.ireturn, 1) := by decide +kernel
set_option maxRecDepth 100000 in
set_option maxHeartbeats 4000000 in
theorem ct_Ro_replace (l : Launch) (E : gf_E) (k : Int) (N : Nat) (μ : gf_M) (hk : gf_oRow k N) (i v : Int) (hi : 0 ≤ i ∧ i < (N : Int)) (hv : gf_R v) : gf_Mi l E yy_Ro_replace cc_Ro_replace 4 .int (gf_rm 0 0) 81 gf_ref μ [.ref (gf_ad E k), .int (gf_i i), .int (gf_i v)] (fun r μ' => r = μ (k + 1) i ∧ μ' = gf_up μ (k + 1) i v) := by
  refine gf_mi (by decide +kernel) (Nat.le_of_ble_eq_true rfl) (by decide) (fun X Q hlx C hQ => ?_)
  subst hlx
  replace C : gf_C X E cc_Ro_replace 4 "GuardFigures$Row" (gf_rm 0 0) := C
  show gf_G X E Q 4 gf_φ μ 0 [(0, .ref (gf_ad E k)), (1, .int (gf_i i)), (2, .int (gf_i v))] []
  refine gf_aload_n C dd_Ro_replace_0 0 rfl ?_
  refine gf_getA (r := (k + 1)) C gf_cl3 fl_Ro_7 dd_Ro_replace_1 rfl hk.1 hk.2.1 (hk.2.2).1 ?_
  refine gf_iload_n C dd_Ro_replace_4 1 rfl ?_
  refine gf_iald C dd_Ro_replace_5 hk.2.2 (by omega) (fun hv5 => ?_)
  refine gf_nm (fun x6 hx6 => ?_)
  refine gf_istore_n (lv' := [(3, .int (gf_i x6)), (0, .ref (gf_ad E k)), (1, .int (gf_i i)), (2, .int (gf_i v))]) C dd_Ro_replace_6 (by decide) rfl ?_
  refine gf_aload_n C dd_Ro_replace_7 1 rfl ?_
  refine gf_getA (r := (k + 1)) C gf_cl3 fl_Ro_7 dd_Ro_replace_8 rfl hk.1 hk.2.1 (hk.2.2).1 ?_
  refine gf_iload_n C dd_Ro_replace_11 2 rfl ?_
  refine gf_iload_n C dd_Ro_replace_12 3 rfl ?_
  refine gf_iast C dd_Ro_replace_13 hk.2.2 (by omega) (by omega) ?_
  refine gf_nmM (fun m13 hm13 => ?_)
  refine gf_iload_n C dd_Ro_replace_14 0 rfl ?_
  refine gf_iret C hQ dd_Ro_replace_15 (by omega) ?_
  exact ⟨hx6, hm13⟩

theorem dd_Ro_renew_0 : decode cc_Ro_renew 0 = .ok (.aload_n 0, 1) := by decide +kernel
theorem dd_Ro_renew_1 : decode cc_Ro_renew 1 = .ok (.iload_n 1, 1) := by decide +kernel
theorem dd_Ro_renew_2 : decode cc_Ro_renew 2 = .ok (.aload_n 0, 1) := by decide +kernel
theorem dd_Ro_renew_3 : decode cc_Ro_renew 3 = .ok (.getfield 7, 3) := by decide +kernel
theorem dd_Ro_renew_6 : decode cc_Ro_renew 6 = .ok (.arraylength, 1) := by decide +kernel
theorem dd_Ro_renew_7 : decode cc_Ro_renew 7 = .ok (.invokestatic 17, 3) := by decide +kernel
theorem dd_Ro_renew_10 : decode cc_Ro_renew 10 = .ok (.putfield 13, 3) := by decide +kernel
theorem dd_Ro_renew_13 : decode cc_Ro_renew 13 = .ok (.iconst 0, 1) := by decide +kernel
theorem dd_Ro_renew_14 : decode cc_Ro_renew 14 = .ok (.istore_n 3, 1) := by decide +kernel
theorem dd_Ro_renew_15 : decode cc_Ro_renew 15 = .ok (.iload_n 3, 1) := by decide +kernel
theorem dd_Ro_renew_16 : decode cc_Ro_renew 16 = .ok (.aload_n 0, 1) := by decide +kernel
theorem dd_Ro_renew_17 : decode cc_Ro_renew 17 = .ok (.getfield 13, 3) := by decide +kernel
theorem dd_Ro_renew_20 : decode cc_Ro_renew 20 = .ok (.if_icmp .ge 16, 3) := by decide +kernel
theorem dd_Ro_renew_23 : decode cc_Ro_renew 23 = .ok (.aload_n 0, 1) := by decide +kernel
theorem dd_Ro_renew_24 : decode cc_Ro_renew 24 = .ok (.getfield 7, 3) := by decide +kernel
theorem dd_Ro_renew_27 : decode cc_Ro_renew 27 = .ok (.iload_n 3, 1) := by decide +kernel
theorem dd_Ro_renew_28 : decode cc_Ro_renew 28 = .ok (.iload_n 2, 1) := by decide +kernel
theorem dd_Ro_renew_29 : decode cc_Ro_renew 29 = .ok (.iastore, 1) := by decide +kernel
theorem dd_Ro_renew_30 : decode cc_Ro_renew 30 = .ok (.iinc 3 1, 3) := by decide +kernel
theorem dd_Ro_renew_33 : decode cc_Ro_renew 33 = .ok (.goto (-18), 3) := by decide +kernel
theorem dd_Ro_renew_36 : decode cc_Ro_renew 36 = .ok (.return_, 1) := by decide +kernel
set_option maxRecDepth 100000 in
set_option maxHeartbeats 4000000 in
theorem ct_Ro_renew (l : Launch) (E : gf_E) (k : Int) (N : Nat) (μ : gf_M) (hk : gf_oRow k N) (n v : Int) (hn : 0 ≤ n ∧ n ≤ (N : Int)) (hv : gf_R v) (hN : N ≤ 60) : gf_Mv l E yy_Ro_renew cc_Ro_renew 4 (gf_rm 1 30) 81 gf_ref 0 0 81 gf_ref μ [.ref (gf_ad E k), .int (gf_i n), .int (gf_i v)] (fun μ' => μ' k 1 = n ∧ (∀ j : Int, 0 ≤ j → j < n → μ' (k + 1) j = v) ∧ ∀ a b : Int, ¬ (a = k ∧ b = 1) → ¬ (a = k + 1 ∧ 0 ≤ b ∧ b < n) → μ' a b = μ a b) := by
  refine gf_mv (by decide +kernel) (Nat.le_of_ble_eq_true rfl) (by decide) (fun X Q hlx C hname hQ => ?_)
  subst hlx
  replace C : gf_C X E cc_Ro_renew 4 "GuardFigures$Row" (gf_rm 1 30) := C
  show gf_G X E Q 4 gf_φ μ 0 [(0, .ref (gf_ad E k)), (1, .int (gf_i n)), (2, .int (gf_i v))] []
  refine gf_aload_n C dd_Ro_renew_0 0 rfl ?_
  refine gf_iload_n C dd_Ro_renew_1 1 rfl ?_
  refine gf_aload_n C dd_Ro_renew_2 0 rfl ?_
  refine gf_getA (r := (k + 1)) C gf_cl3 fl_Ro_7 dd_Ro_renew_3 rfl hk.1 hk.2.1 (hk.2.2).1 ?_
  refine gf_alen 1 C dd_Ro_renew_6 hk.2.2 (by decide) ?_
  refine gf_mmin C (gf_mem 294 (by decide +kernel) (by decide +kernel)) dd_Ro_renew_7 (by omega) ⟨by decide, Nat.le_of_ble_eq_true rfl, rfl, rfl⟩ ?_
  refine gf_putI (z := 1) C gf_cl3 fl_Ro_13 dd_Ro_renew_10 rfl rfl rfl (by decide +kernel) hk.1 (by unfold gf_min; split <;> omega) ?_
  refine gf_nmM (fun m10 hm10 => ?_)
  have hmin : gf_min n N = n := by unfold gf_min; split <;> omega
  rw [hmin] at hm10
  refine gf_iconst C dd_Ro_renew_13 ?_
  refine gf_istore_n (lv' := [(3, .int (gf_i 0)), (0, .ref (gf_ad E k)), (1, .int (gf_i n)), (2, .int (gf_i v))]) C dd_Ro_renew_14 (by decide) rfl ?_
  have L15_1 : ∀ (N : Nat) (i : Int) (m : gf_M) , (0 ≤ i ∧ i ≤ n ∧ m k 1 = n ∧ (∀ j : Int, 0 ≤ j → j < i → m (k + 1) j = v) ∧ ∀ a b : Int, ¬ (a = k ∧ b = 1) → ¬ (a = k + 1 ∧ 0 ≤ b ∧ b < n) → m a b = μ a b) → (n - i).toNat < N → gf_G X E Q 4 gf_φ m 15 [(3, .int (gf_i i)), (0, .ref (gf_ad E k)), (1, .int (gf_i n)), (2, .int (gf_i v))] [] := by
    intro N
    induction N with
    | zero => intro i m hinv hN; exact absurd hN (Nat.not_lt_zero _)
    | succ N ih15_1 =>
      intro i m hinv hN
      have hinv0 := hinv
      obtain ⟨hi0, hi1, hi2, hi3, hi4⟩ := hinv
      refine gf_iload_n C dd_Ro_renew_15 0 rfl ?_
      refine gf_aload_n C dd_Ro_renew_16 1 rfl ?_
      refine gf_getI (z := 1) C gf_cl3 fl_Ro_13 dd_Ro_renew_17 rfl rfl hk.1 (fun hv17 => ?_)
      refine gf_icmp_ge 36 C dd_Ro_renew_20 (by decide) (by omega) (by omega) (fun h20 => ?_) (fun h20 => ?_)
      · skip
        refine gf_vret C hQ dd_Ro_renew_36 ?_
        exact ⟨hi2, fun j h0 h1 => hi3 j h0 (by omega), hi4⟩
      · skip
        refine gf_aload_n C dd_Ro_renew_23 1 rfl ?_
        refine gf_getA (r := (k + 1)) C gf_cl3 fl_Ro_7 dd_Ro_renew_24 rfl hk.1 hk.2.1 (hk.2.2).1 ?_
        refine gf_iload_n C dd_Ro_renew_27 0 rfl ?_
        refine gf_iload_n C dd_Ro_renew_28 3 rfl ?_
        refine gf_iast C dd_Ro_renew_29 hk.2.2 (by omega) (by omega) ?_
        refine gf_nmM (fun m29 hm29 => ?_)
        obtain ⟨x30, hx30⟩ : ∃ y : Int, y = i + 1 := ⟨_, rfl⟩
        refine gf_iinc (q := 0) (v := x30) (lv' := [(3, .int (gf_i x30)), (0, .ref (gf_ad E k)), (1, .int (gf_i n)), (2, .int (gf_i v))]) C dd_Ro_renew_30 rfl hx30 (by decide) rfl ?_
        refine gf_goto 15 C dd_Ro_renew_33 (by decide) ?_
        refine gf_lsub [0, 1, 2, 3] rfl ?_
        exact ih15_1 x30 m29 (by
                refine ⟨by omega, by omega, by rw [hm29, gf_up_k (by omega)]; exact hi2, fun j h0 h1 => ?_, fun a b h1 h2 => ?_⟩
                · rw [hm29]
                  by_cases hj : j = i
                  · rw [hj]; exact gf_up_s
                  · rw [gf_up_j hj]; exact hi3 j h0 (by omega)
                · rw [hm29, ← hi4 a b h1 h2]
                  by_cases ha : a = k + 1
                  · exact gf_up_j (by omega)
                  · exact gf_up_k ha) (by omega)
  refine gf_lsub [0, 1, 2, 3] rfl ?_
  exact L15_1 _ 0 m10 (by
      refine ⟨by omega, by omega, by rw [hm10]; exact gf_up_s, fun j h0 h1 => by omega, fun a b h1 h2 => ?_⟩
      rw [hm10]
      by_cases ha : a = k
      · exact gf_up_j (fun hb => h1 ⟨ha, hb⟩)
      · exact gf_up_k ha) (Nat.lt_succ_self _)

theorem dd_Ro_sum_0 : decode cc_Ro_sum 0 = .ok (.lconst 0, 1) := by decide +kernel
theorem dd_Ro_sum_1 : decode cc_Ro_sum 1 = .ok (.lstore_n 1, 1) := by decide +kernel
theorem dd_Ro_sum_2 : decode cc_Ro_sum 2 = .ok (.iconst 0, 1) := by decide +kernel
theorem dd_Ro_sum_3 : decode cc_Ro_sum 3 = .ok (.istore_n 3, 1) := by decide +kernel
theorem dd_Ro_sum_4 : decode cc_Ro_sum 4 = .ok (.iload_n 3, 1) := by decide +kernel
theorem dd_Ro_sum_5 : decode cc_Ro_sum 5 = .ok (.aload_n 0, 1) := by decide +kernel
theorem dd_Ro_sum_6 : decode cc_Ro_sum 6 = .ok (.getfield 13, 3) := by decide +kernel
theorem dd_Ro_sum_9 : decode cc_Ro_sum 9 = .ok (.if_icmp .ge 19, 3) := by decide +kernel
theorem dd_Ro_sum_12 : decode cc_Ro_sum 12 = .ok (.lload_n 1, 1) := by decide +kernel
theorem dd_Ro_sum_13 : decode cc_Ro_sum 13 = .ok (.aload_n 0, 1) := by decide +kernel
theorem dd_Ro_sum_14 : decode cc_Ro_sum 14 = .ok (.getfield 7, 3) := by decide +kernel
theorem dd_Ro_sum_17 : decode cc_Ro_sum 17 = .ok (.iload_n 3, 1) := by decide +kernel
theorem dd_Ro_sum_18 : decode cc_Ro_sum 18 = .ok (.iaload, 1) := by decide +kernel
theorem dd_Ro_sum_19 : decode cc_Ro_sum 19 = .ok (.i2l, 1) := by decide +kernel
theorem dd_Ro_sum_20 : decode cc_Ro_sum 20 = .ok (.ladd, 1) := by decide +kernel
theorem dd_Ro_sum_21 : decode cc_Ro_sum 21 = .ok (.lstore_n 1, 1) := by decide +kernel
theorem dd_Ro_sum_22 : decode cc_Ro_sum 22 = .ok (.iinc 3 1, 3) := by decide +kernel
theorem dd_Ro_sum_25 : decode cc_Ro_sum 25 = .ok (.goto (-21), 3) := by decide +kernel
theorem dd_Ro_sum_28 : decode cc_Ro_sum 28 = .ok (.lload_n 1, 1) := by decide +kernel
theorem dd_Ro_sum_29 : decode cc_Ro_sum 29 = .ok (.lreturn, 1) := by decide +kernel
set_option maxRecDepth 100000 in
set_option maxHeartbeats 4000000 in
theorem ct_Ro_sum (l : Launch) (E : gf_E) (k : Int) (N : Nat) (μ : gf_M) (hk : gf_oRow k N) (hs : -1 ≤ μ k 1 ∧ μ k 1 ≤ (N : Int)) (hN : N ≤ 60) : gf_Ml l E yy_Ro_sum cc_Ro_sum 4 (gf_rm 0 0) 81 gf_ref μ [.ref (gf_ad E k)] (fun r μ' => (r = pf_sum (μ (k + 1)) (μ k 1).toNat ∧ -200000000000 ≤ r ∧ r ≤ 200000000000) ∧ μ' = μ) := by
  refine gf_ml (by decide +kernel) (Nat.le_of_ble_eq_true rfl) (by decide) (fun X Q hlx C hQ => ?_)
  subst hlx
  replace C : gf_C X E cc_Ro_sum 4 "GuardFigures$Row" (gf_rm 0 0) := C
  show gf_G X E Q 4 gf_φ μ 0 [(0, .ref (gf_ad E k))] []
  refine gf_lconst 0 C dd_Ro_sum_0 (by decide +kernel) ?_
  refine gf_lstore_n (lv' := [(1, .long (gf_l 0)), (0, .ref (gf_ad E k))]) C dd_Ro_sum_1 (by decide) rfl ?_
  refine gf_iconst C dd_Ro_sum_2 ?_
  refine gf_istore_n (lv' := [(3, .int (gf_i 0)), (1, .long (gf_l 0)), (0, .ref (gf_ad E k))]) C dd_Ro_sum_3 (by decide) rfl ?_
  have L4_1 : ∀ (N : Nat) (s i : Int) , (0 ≤ i ∧ (i = 0 ∨ i ≤ μ k 1) ∧ s = pf_sum (μ (k + 1)) i.toNat ∧ -2147483648 * i ≤ s ∧ s ≤ 2147483648 * i) → (61 - i).toNat < N → gf_G X E Q 4 gf_φ μ 4 [(1, .long (gf_l s)), (3, .int (gf_i i)), (0, .ref (gf_ad E k))] [] := by
    intro N
    induction N with
    | zero => intro s i hinv hN; exact absurd hN (Nat.not_lt_zero _)
    | succ N ih4_1 =>
      intro s i hinv hN
      have hinv0 := hinv
      obtain ⟨hi0, hi1, hi2, hi3, hi4⟩ := hinv
      refine gf_iload_n C dd_Ro_sum_4 1 rfl ?_
      refine gf_aload_n C dd_Ro_sum_5 2 rfl ?_
      refine gf_getI (z := 1) C gf_cl3 fl_Ro_13 dd_Ro_sum_6 rfl rfl hk.1 (fun hv6 => ?_)
      refine gf_icmp_ge 28 C dd_Ro_sum_9 (by decide) (by omega) (by omega) (fun h9 => ?_) (fun h9 => ?_)
      · skip
        refine gf_lload_n C dd_Ro_sum_28 0 rfl ?_
        refine gf_lret C hQ dd_Ro_sum_29 (by omega) ?_
        refine ⟨⟨?_, by omega, by omega⟩, rfl⟩
        rw [hi2]
        congr 1
        omega
      · skip
        refine gf_lload_n C dd_Ro_sum_12 0 rfl ?_
        refine gf_aload_n C dd_Ro_sum_13 2 rfl ?_
        refine gf_getA (r := (k + 1)) C gf_cl3 fl_Ro_7 dd_Ro_sum_14 rfl hk.1 hk.2.1 (hk.2.2).1 ?_
        refine gf_iload_n C dd_Ro_sum_17 1 rfl ?_
        refine gf_iald C dd_Ro_sum_18 hk.2.2 (by omega) (fun hv18 => ?_)
        refine gf_gi2l C dd_Ro_sum_19 (by omega) ?_
        refine gf_ladd C dd_Ro_sum_20 ?_
        refine gf_nml (fun x21 hx21 => ?_)
        refine gf_lstore_n (lv' := [(1, .long (gf_l x21)), (3, .int (gf_i i)), (0, .ref (gf_ad E k))]) C dd_Ro_sum_21 (by decide) rfl ?_
        obtain ⟨x22, hx22⟩ : ∃ y : Int, y = i + 1 := ⟨_, rfl⟩
        refine gf_iinc (q := 1) (v := x22) (lv' := [(3, .int (gf_i x22)), (1, .long (gf_l x21)), (0, .ref (gf_ad E k))]) C dd_Ro_sum_22 rfl hx22 (by decide) rfl ?_
        refine gf_goto 4 C dd_Ro_sum_25 (by decide) ?_
        refine gf_lsub [1, 0, 2] rfl ?_
        exact ih4_1 x21 x22 (by
                refine ⟨by omega, by omega, ?_, by omega, by omega⟩
                rw [hx21, hx22, hi2, show (i + 1).toNat = i.toNat + 1 by omega]
                show _ = _ + μ (k + 1) ((i.toNat : Nat) : Int)
                rw [show ((i.toNat : Nat) : Int) = i by omega]) (by omega)
  refine gf_lsub [1, 0, 2] rfl ?_
  exact L4_1 _ 0 0 (⟨by omega, by omega, rfl, by omega, by omega⟩) (Nat.lt_succ_self _)

theorem dd_Ro_digestOn_0 : decode cc_Ro_digestOn 0 = .ok (.ldc2_w 23, 3) := by decide +kernel
theorem dd_Ro_digestOn_3 : decode cc_Ro_digestOn 3 = .ok (.lload_n 1, 1) := by decide +kernel
theorem dd_Ro_digestOn_4 : decode cc_Ro_digestOn 4 = .ok (.lmul, 1) := by decide +kernel
theorem dd_Ro_digestOn_5 : decode cc_Ro_digestOn 5 = .ok (.aload_n 0, 1) := by decide +kernel
theorem dd_Ro_digestOn_6 : decode cc_Ro_digestOn 6 = .ok (.getfield 13, 3) := by decide +kernel
theorem dd_Ro_digestOn_9 : decode cc_Ro_digestOn 9 = .ok (.i2l, 1) := by decide +kernel
theorem dd_Ro_digestOn_10 : decode cc_Ro_digestOn 10 = .ok (.ladd, 1) := by decide +kernel
theorem dd_Ro_digestOn_11 : decode cc_Ro_digestOn 11 = .ok (.lstore_n 3, 1) := by decide +kernel
theorem dd_Ro_digestOn_12 : decode cc_Ro_digestOn 12 = .ok (.iconst 0, 1) := by decide +kernel
theorem dd_Ro_digestOn_13 : decode cc_Ro_digestOn 13 = .ok (.istore 5, 2) := by decide +kernel
theorem dd_Ro_digestOn_15 : decode cc_Ro_digestOn 15 = .ok (.iload 5, 2) := by decide +kernel
theorem dd_Ro_digestOn_17 : decode cc_Ro_digestOn 17 = .ok (.aload_n 0, 1) := by decide +kernel
theorem dd_Ro_digestOn_18 : decode cc_Ro_digestOn 18 = .ok (.getfield 13, 3) := by decide +kernel
theorem dd_Ro_digestOn_21 : decode cc_Ro_digestOn 21 = .ok (.if_icmp .ge 24, 3) := by decide +kernel
theorem dd_Ro_digestOn_24 : decode cc_Ro_digestOn 24 = .ok (.ldc2_w 23, 3) := by decide +kernel
theorem dd_Ro_digestOn_27 : decode cc_Ro_digestOn 27 = .ok (.lload_n 3, 1) := by decide +kernel
theorem dd_Ro_digestOn_28 : decode cc_Ro_digestOn 28 = .ok (.lmul, 1) := by decide +kernel
theorem dd_Ro_digestOn_29 : decode cc_Ro_digestOn 29 = .ok (.aload_n 0, 1) := by decide +kernel
theorem dd_Ro_digestOn_30 : decode cc_Ro_digestOn 30 = .ok (.getfield 7, 3) := by decide +kernel
theorem dd_Ro_digestOn_33 : decode cc_Ro_digestOn 33 = .ok (.iload 5, 2) := by decide +kernel
theorem dd_Ro_digestOn_35 : decode cc_Ro_digestOn 35 = .ok (.iaload, 1) := by decide +kernel
theorem dd_Ro_digestOn_36 : decode cc_Ro_digestOn 36 = .ok (.i2l, 1) := by decide +kernel
theorem dd_Ro_digestOn_37 : decode cc_Ro_digestOn 37 = .ok (.ladd, 1) := by decide +kernel
theorem dd_Ro_digestOn_38 : decode cc_Ro_digestOn 38 = .ok (.lstore_n 3, 1) := by decide +kernel
theorem dd_Ro_digestOn_39 : decode cc_Ro_digestOn 39 = .ok (.iinc 5 1, 3) := by decide +kernel
theorem dd_Ro_digestOn_42 : decode cc_Ro_digestOn 42 = .ok (.goto (-27), 3) := by decide +kernel
theorem dd_Ro_digestOn_45 : decode cc_Ro_digestOn 45 = .ok (.lload_n 3, 1) := by decide +kernel
theorem dd_Ro_digestOn_46 : decode cc_Ro_digestOn 46 = .ok (.lreturn, 1) := by decide +kernel
set_option maxRecDepth 100000 in
set_option maxHeartbeats 4000000 in
theorem ct_Ro_digestOn (l : Launch) (E : gf_E) (k : Int) (N : Nat) (μ : gf_M) (hk : gf_oRow k N) (h : Int) (hs : -1 ≤ μ k 1 ∧ μ k 1 ≤ (N : Int)) (hN : N ≤ 60) : gf_Ml l E yy_Ro_digestOn cc_Ro_digestOn 6 (gf_rm 0 0) 81 gf_ref μ [.ref (gf_ad E k), .long (gf_l h)] (fun r μ' => gf_l r = gf_l (pf_dig (31 * h + μ k 1) (μ (k + 1)) (μ k 1).toNat) ∧ μ' = μ) := by
  refine gf_ml (by decide +kernel) (Nat.le_of_ble_eq_true rfl) (by decide) (fun X Q hlx C hQ => ?_)
  subst hlx
  replace C : gf_C X E cc_Ro_digestOn 6 "GuardFigures$Row" (gf_rm 0 0) := C
  show gf_G X E Q 6 gf_φ μ 0 [(0, .ref (gf_ad E k)), (1, .long (gf_l h))] []
  refine gf_ldc2 31 C dd_Ro_digestOn_0 ck_Ro_23 (by decide +kernel) ?_
  refine gf_lload_n C dd_Ro_digestOn_3 1 rfl ?_
  refine gf_lmul C dd_Ro_digestOn_4 ?_
  refine gf_aload_n C dd_Ro_digestOn_5 0 rfl ?_
  refine gf_getI (z := 1) C gf_cl3 fl_Ro_13 dd_Ro_digestOn_6 rfl rfl hk.1 (fun hv6 => ?_)
  refine gf_gi2l C dd_Ro_digestOn_9 (by omega) ?_
  refine gf_ladd C dd_Ro_digestOn_10 ?_
  refine gf_nml (fun x11 hx11 => ?_)
  refine gf_lstore_n (lv' := [(3, .long (gf_l x11)), (0, .ref (gf_ad E k)), (1, .long (gf_l h))]) C dd_Ro_digestOn_11 (by decide) rfl ?_
  refine gf_iconst C dd_Ro_digestOn_12 ?_
  refine gf_istore (lv' := [(5, .int (gf_i 0)), (3, .long (gf_l x11)), (0, .ref (gf_ad E k)), (1, .long (gf_l h))]) C dd_Ro_digestOn_13 (by decide) rfl ?_
  have L15_1 : ∀ (N : Nat) (s i : Int) , (0 ≤ i ∧ (i = 0 ∨ i ≤ μ k 1) ∧ s = pf_dig (31 * h + μ k 1) (μ (k + 1)) i.toNat) → (61 - i).toNat < N → gf_G X E Q 6 gf_φ μ 15 [(3, .long (gf_l s)), (5, .int (gf_i i)), (0, .ref (gf_ad E k)), (1, .long (gf_l h))] [] := by
    intro N
    induction N with
    | zero => intro s i hinv hN; exact absurd hN (Nat.not_lt_zero _)
    | succ N ih15_1 =>
      intro s i hinv hN
      have hinv0 := hinv
      obtain ⟨hi0, hi1, hi2⟩ := hinv
      refine gf_iload C dd_Ro_digestOn_15 1 rfl ?_
      refine gf_aload_n C dd_Ro_digestOn_17 2 rfl ?_
      refine gf_getI (z := 1) C gf_cl3 fl_Ro_13 dd_Ro_digestOn_18 rfl rfl hk.1 (fun hv18 => ?_)
      refine gf_icmp_ge 45 C dd_Ro_digestOn_21 (by decide) (by omega) (by omega) (fun h21 => ?_) (fun h21 => ?_)
      · skip
        refine gf_lload_n C dd_Ro_digestOn_45 0 rfl ?_
        refine gf_lretw C hQ dd_Ro_digestOn_46 ?_
        refine ⟨?_, rfl⟩
        rw [gf_wl_l, hi2]
        congr 2
        omega
      · skip
        refine gf_ldc2 31 C dd_Ro_digestOn_24 ck_Ro_23 (by decide +kernel) ?_
        refine gf_lload_n C dd_Ro_digestOn_27 0 rfl ?_
        refine gf_lmul C dd_Ro_digestOn_28 ?_
        refine gf_aload_n C dd_Ro_digestOn_29 2 rfl ?_
        refine gf_getA (r := (k + 1)) C gf_cl3 fl_Ro_7 dd_Ro_digestOn_30 rfl hk.1 hk.2.1 (hk.2.2).1 ?_
        refine gf_iload C dd_Ro_digestOn_33 1 rfl ?_
        refine gf_iald C dd_Ro_digestOn_35 hk.2.2 (by omega) (fun hv35 => ?_)
        refine gf_gi2l C dd_Ro_digestOn_36 (by omega) ?_
        refine gf_ladd C dd_Ro_digestOn_37 ?_
        refine gf_nml (fun x38 hx38 => ?_)
        refine gf_lstore_n (lv' := [(3, .long (gf_l x38)), (5, .int (gf_i i)), (0, .ref (gf_ad E k)), (1, .long (gf_l h))]) C dd_Ro_digestOn_38 (by decide) rfl ?_
        obtain ⟨x39, hx39⟩ : ∃ y : Int, y = i + 1 := ⟨_, rfl⟩
        refine gf_iinc (q := 1) (v := x39) (lv' := [(5, .int (gf_i x39)), (3, .long (gf_l x38)), (0, .ref (gf_ad E k)), (1, .long (gf_l h))]) C dd_Ro_digestOn_39 rfl hx39 (by decide) rfl ?_
        refine gf_goto 15 C dd_Ro_digestOn_42 (by decide) ?_
        refine gf_lsub [1, 0, 2, 3] rfl ?_
        exact ih15_1 x38 x39 (by
                refine ⟨by omega, by omega, ?_⟩
                rw [hx38, hx39, hi2, show (i + 1).toNat = i.toNat + 1 by omega]
                show _ = 31 * _ + μ (k + 1) ((i.toNat : Nat) : Int)
                rw [show ((i.toNat : Nat) : Int) = i by omega]) (by omega)
  refine gf_lsub [1, 0, 2, 3] rfl ?_
  exact L15_1 _ x11 0 (⟨by omega, by omega, hx11⟩) (Nat.lt_succ_self _)
end
section
/-! Writing, and two static helpers -/
/-- figures behind a 1 -/
def pf_enc (f : Int → Int) : Nat → Int
  | 0 => 1
  | n + 1 => pf_enc f n * 10 + f n
theorem pf_enc_B {f : Int → Int} : ∀ (n : Nat), (∀ j : Int, 0 ≤ j → j < n → 0 ≤ f j ∧ f j ≤ 9) → 10 ^ n ≤ pf_enc f n ∧ pf_enc f n < 2 * 10 ^ n
  | 0, _ => by simp [pf_enc]
  | n + 1, h => by
    have ih := pf_enc_B n (fun j h0 h1 => h j h0 (by omega))
    have hn := h n (by omega) (by omega)
    unfold pf_enc
    rw [Int.pow_succ]
    omega
theorem pf_enc_congr {f g : Int → Int} : ∀ (n : Nat), (∀ j : Int, 0 ≤ j → j < n → f j = g j) → pf_enc f n = pf_enc g n
  | 0, _ => rfl
  | n + 1, h => by unfold pf_enc; rw [pf_enc_congr n (fun j h0 h1 => h j h0 (by omega)), h n (by omega) (by omega)]
theorem pf_enc_8 {f : Int → Int} {n : Nat} (hn : n ≤ 8) (h : ∀ j : Int, 0 ≤ j → j < n → 0 ≤ f j ∧ f j ≤ 9) : 1 ≤ pf_enc f n ∧ pf_enc f n ≤ 200000000 := by
  have h1 := pf_enc_B n h
  have : (10 : Int) ^ n ≤ 10 ^ 8 ∧ 1 ≤ (10 : Int) ^ n := by
    have : n = 0 ∨ n = 1 ∨ n = 2 ∨ n = 3 ∨ n = 4 ∨ n = 5 ∨ n = 6 ∨ n = 7 ∨ n = 8 := by omega
    rcases this with rfl | rfl | rfl | rfl | rfl | rfl | rfl | rfl | rfl <;> decide
  have e : (10 : Int) ^ 8 = 100000000 := by decide
  omega
theorem pf_enc_1 {f : Int → Int} {n : Nat} (h : ∀ j : Int, 0 ≤ j → j < ((n + 1 : Nat) : Int) → 0 ≤ f j ∧ f j ≤ 9) : 10 ≤ pf_enc f (n + 1) ∧ pf_enc f (n + 1) / 10 = pf_enc f n ∧ pf_enc f (n + 1) % 10 = f n := by
  have h1 := pf_enc_B n (fun j h0 h1 => h j h0 (by omega))
  have hn := h n (by omega) (by omega)
  have hp : (1 : Int) ≤ 10 ^ n := by
    have := Int.pow_pos (n := 10) (m := n) (by decide)
    omega
  show 10 ≤ pf_enc f n * 10 + f n ∧ (pf_enc f n * 10 + f n) / 10 = pf_enc f n ∧ (pf_enc f n * 10 + f n) % 10 = f n
  omega
/-- what one deed by lot does -/
def pf_lotW (μ : gf_M) (w lot : Int) : gf_M :=
  if lot % 4 ≤ 1 then (if μ w 1 < 8 then gf_up (gf_up μ (w + 1) (μ w 1) (lot / 8 % 10)) w 1 (μ w 1 + 1) else μ)
  else if lot % 4 = 2 then (if μ w 1 = 0 then μ else gf_up μ w 1 (μ w 1 - 1))
  else if lot / 128 % 8 < μ w 1 then gf_up μ (w + 1) (lot / 128 % 8) (lot / 8 % 10) else μ
theorem dd_Fi_isWithin_0 : decode cc_Fi_isWithin 0 = .ok (.iload_n 0, 1) := by decide +kernel
theorem dd_Fi_isWithin_1 : decode cc_Fi_isWithin 1 = .ok (.ifCond .lt 12, 3) := by decide +kernel
theorem dd_Fi_isWithin_4 : decode cc_Fi_isWithin 4 = .ok (.iload_n 0, 1) := by decide +kernel
theorem dd_Fi_isWithin_5 : decode cc_Fi_isWithin 5 = .ok (.iload_n 1, 1) := by decide +kernel
theorem dd_Fi_isWithin_6 : decode cc_Fi_isWithin 6 = .ok (.if_icmp .ge 7, 3) := by decide +kernel
theorem dd_Fi_isWithin_9 : decode cc_Fi_isWithin 9 = .ok (.iconst 1, 1) := by decide +kernel
theorem dd_Fi_isWithin_10 : decode cc_Fi_isWithin 10 = .ok (.goto 4, 3) := by decide +kernel
theorem dd_Fi_isWithin_13 : decode cc_Fi_isWithin 13 = .ok (.iconst 0, 1) := by decide +kernel
theorem dd_Fi_isWithin_14 : decode cc_Fi_isWithin 14 = .ok (.ireturn, 1) := by decide +kernel
set_option maxRecDepth 100000 in
set_option maxHeartbeats 4000000 in
theorem ct_Fi_isWithin (l : Launch) (E : gf_E) (i b : Int) (μ : gf_M) (hi : gf_R i) (hb : gf_R b) : gf_Mi l E yy_Fi_isWithin cc_Fi_isWithin 2 .boolean (gf_rm 0 0) 81 gf_ref μ [.int (gf_i i), .int (gf_i b)] (fun r μ' => ((0 ≤ i ∧ i < b → r = 1) ∧ (¬ (0 ≤ i ∧ i < b) → r = 0)) ∧ μ' = μ) := by
  refine gf_mi (by decide +kernel) (Nat.le_of_ble_eq_true rfl) (by decide) (fun X Q hlx C hQ => ?_)
  subst hlx
  replace C : gf_C X E cc_Fi_isWithin 2 "GuardFigures" (gf_rm 0 0) := C
  show gf_G X E Q 2 gf_φ μ 0 [(0, .int (gf_i i)), (1, .int (gf_i b))] []
  refine gf_iload_n C dd_Fi_isWithin_0 0 rfl ?_
  refine gf_if_lt 13 C dd_Fi_isWithin_1 (by decide) (by omega) (fun h1 => ?_) (fun h1 => ?_)
  · skip
    refine gf_iconst C dd_Fi_isWithin_13 ?_
    refine gf_zret C hQ dd_Fi_isWithin_14 (by omega) ?_
    exact ⟨⟨by omega, by omega⟩, rfl⟩
  · skip
    refine gf_iload_n C dd_Fi_isWithin_4 0 rfl ?_
    refine gf_iload_n C dd_Fi_isWithin_5 1 rfl ?_
    refine gf_icmp_ge 13 C dd_Fi_isWithin_6 (by decide) (by omega) (by omega) (fun h6 => ?_) (fun h6 => ?_)
    · skip
      refine gf_iconst C dd_Fi_isWithin_13 ?_
      refine gf_zret C hQ dd_Fi_isWithin_14 (by omega) ?_
      exact ⟨⟨by omega, by omega⟩, rfl⟩
    · skip
      refine gf_iconst C dd_Fi_isWithin_9 ?_
      refine gf_goto 14 C dd_Fi_isWithin_10 (by decide) ?_
      refine gf_zret C hQ dd_Fi_isWithin_14 (by omega) ?_
      exact ⟨⟨by omega, by omega⟩, rfl⟩

theorem dd_Fi_exchange_0 : decode cc_Fi_exchange 0 = .ok (.aload_n 0, 1) := by decide +kernel
theorem dd_Fi_exchange_1 : decode cc_Fi_exchange 1 = .ok (.iload_n 1, 1) := by decide +kernel
theorem dd_Fi_exchange_2 : decode cc_Fi_exchange 2 = .ok (.iaload, 1) := by decide +kernel
theorem dd_Fi_exchange_3 : decode cc_Fi_exchange 3 = .ok (.istore_n 3, 1) := by decide +kernel
theorem dd_Fi_exchange_4 : decode cc_Fi_exchange 4 = .ok (.aload_n 0, 1) := by decide +kernel
theorem dd_Fi_exchange_5 : decode cc_Fi_exchange 5 = .ok (.iload_n 1, 1) := by decide +kernel
theorem dd_Fi_exchange_6 : decode cc_Fi_exchange 6 = .ok (.aload_n 0, 1) := by decide +kernel
theorem dd_Fi_exchange_7 : decode cc_Fi_exchange 7 = .ok (.iload_n 2, 1) := by decide +kernel
theorem dd_Fi_exchange_8 : decode cc_Fi_exchange 8 = .ok (.iaload, 1) := by decide +kernel
theorem dd_Fi_exchange_9 : decode cc_Fi_exchange 9 = .ok (.iastore, 1) := by decide +kernel
theorem dd_Fi_exchange_10 : decode cc_Fi_exchange 10 = .ok (.aload_n 0, 1) := by decide +kernel
theorem dd_Fi_exchange_11 : decode cc_Fi_exchange 11 = .ok (.iload_n 2, 1) := by decide +kernel
theorem dd_Fi_exchange_12 : decode cc_Fi_exchange 12 = .ok (.iload_n 3, 1) := by decide +kernel
theorem dd_Fi_exchange_13 : decode cc_Fi_exchange 13 = .ok (.iastore, 1) := by decide +kernel
theorem dd_Fi_exchange_14 : decode cc_Fi_exchange 14 = .ok (.return_, 1) := by decide +kernel
set_option maxRecDepth 100000 in
set_option maxHeartbeats 4000000 in
theorem ct_Fi_exchange (l : Launch) (E : gf_E) (a j k : Int) (N : Nat) (μ : gf_M) (ha : gf_is 81 a 1 0 N) (hj : 0 ≤ j ∧ j < (N : Int)) (hk : 0 ≤ k ∧ k < (N : Int)) : gf_Mv l E yy_Fi_exchange cc_Fi_exchange 4 (gf_rm 0 0) 81 gf_ref 0 0 81 gf_ref μ [.ref (gf_ad E a), .int (gf_i j), .int (gf_i k)] (fun μ' => μ' = gf_up (gf_up μ a j (μ a k)) a k (μ a j)) := by
  refine gf_mv (by decide +kernel) (Nat.le_of_ble_eq_true rfl) (by decide) (fun X Q hlx C hname hQ => ?_)
  subst hlx
  replace C : gf_C X E cc_Fi_exchange 4 "GuardFigures" (gf_rm 0 0) := C
  show gf_G X E Q 4 gf_φ μ 0 [(0, .ref (gf_ad E a)), (1, .int (gf_i j)), (2, .int (gf_i k))] []
  refine gf_aload_n C dd_Fi_exchange_0 0 rfl ?_
  refine gf_iload_n C dd_Fi_exchange_1 1 rfl ?_
  refine gf_iald C dd_Fi_exchange_2 ha (by omega) (fun hv2 => ?_)
  refine gf_nm (fun x3 hx3 => ?_)
  refine gf_istore_n (lv' := [(3, .int (gf_i x3)), (0, .ref (gf_ad E a)), (1, .int (gf_i j)), (2, .int (gf_i k))]) C dd_Fi_exchange_3 (by decide) rfl ?_
  refine gf_aload_n C dd_Fi_exchange_4 1 rfl ?_
  refine gf_iload_n C dd_Fi_exchange_5 2 rfl ?_
  refine gf_aload_n C dd_Fi_exchange_6 1 rfl ?_
  refine gf_iload_n C dd_Fi_exchange_7 3 rfl ?_
  refine gf_iald C dd_Fi_exchange_8 ha (by omega) (fun hv8 => ?_)
  refine gf_iast C dd_Fi_exchange_9 ha (by omega) (by omega) ?_
  refine gf_nmM (fun m9 hm9 => ?_)
  refine gf_aload_n C dd_Fi_exchange_10 1 rfl ?_
  refine gf_iload_n C dd_Fi_exchange_11 3 rfl ?_
  refine gf_iload_n C dd_Fi_exchange_12 0 rfl ?_
  refine gf_iast C dd_Fi_exchange_13 ha (by omega) (by omega) ?_
  refine gf_nmM (fun m13 hm13 => ?_)
  refine gf_vret C hQ dd_Fi_exchange_14 ?_
  rw [hm13, hm9, hx3]

theorem dd_Wr_clear_0 : decode cc_Wr_clear 0 = .ok (.aload_n 0, 1) := by decide +kernel
theorem dd_Wr_clear_1 : decode cc_Wr_clear 1 = .ok (.iconst 0, 1) := by decide +kernel
theorem dd_Wr_clear_2 : decode cc_Wr_clear 2 = .ok (.putfield 18, 3) := by decide +kernel
theorem dd_Wr_clear_5 : decode cc_Wr_clear 5 = .ok (.aload_n 0, 1) := by decide +kernel
theorem dd_Wr_clear_6 : decode cc_Wr_clear 6 = .ok (.iconst 0, 1) := by decide +kernel
theorem dd_Wr_clear_7 : decode cc_Wr_clear 7 = .ok (.putfield 22, 3) := by decide +kernel
theorem dd_Wr_clear_10 : decode cc_Wr_clear 10 = .ok (.return_, 1) := by decide +kernel
set_option maxRecDepth 100000 in
set_option maxHeartbeats 4000000 in
theorem ct_Wr_clear (l : Launch) (E : gf_E) (w : Int) (μ : gf_M) (hw : gf_oWr w)  : gf_Mv l E yy_Wr_clear cc_Wr_clear 1 (gf_rm 0 0) 81 gf_ref 0 0 81 gf_ref μ [.ref (gf_ad E w)] (fun μ' => μ' = gf_up (gf_up μ w 1 0) w 2 0) := by
  refine gf_mv (by decide +kernel) (Nat.le_of_ble_eq_true rfl) (by decide) (fun X Q hlx C hname hQ => ?_)
  subst hlx
  replace C : gf_C X E cc_Wr_clear 1 "GuardFigures$Writing" (gf_rm 0 0) := C
  show gf_G X E Q 1 gf_φ μ 0 [(0, .ref (gf_ad E w))] []
  refine gf_aload_n C dd_Wr_clear_0 0 rfl ?_
  refine gf_iconst C dd_Wr_clear_1 ?_
  refine gf_putI (z := 1) C gf_cl5 fl_Wr_18 dd_Wr_clear_2 rfl rfl rfl (by decide +kernel) hw.1 (by omega) ?_
  refine gf_nmM (fun m2 hm2 => ?_)
  refine gf_aload_n C dd_Wr_clear_5 0 rfl ?_
  refine gf_iconst C dd_Wr_clear_6 ?_
  refine gf_putI (z := 2) C gf_cl5 fl_Wr_22 dd_Wr_clear_7 rfl rfl rfl (by decide +kernel) hw.1 (by omega) ?_
  refine gf_nmM (fun m7 hm7 => ?_)
  refine gf_vret C hQ dd_Wr_clear_10 ?_
  rw [hm7, hm2]

theorem dd_Wr_resemble_0 : decode cc_Wr_resemble 0 = .ok (.aload_n 0, 1) := by decide +kernel
theorem dd_Wr_resemble_1 : decode cc_Wr_resemble 1 = .ok (.aload_n 1, 1) := by decide +kernel
theorem dd_Wr_resemble_2 : decode cc_Wr_resemble 2 = .ok (.getfield 18, 3) := by decide +kernel
theorem dd_Wr_resemble_5 : decode cc_Wr_resemble 5 = .ok (.putfield 18, 3) := by decide +kernel
theorem dd_Wr_resemble_8 : decode cc_Wr_resemble 8 = .ok (.aload_n 0, 1) := by decide +kernel
theorem dd_Wr_resemble_9 : decode cc_Wr_resemble 9 = .ok (.aload_n 1, 1) := by decide +kernel
theorem dd_Wr_resemble_10 : decode cc_Wr_resemble 10 = .ok (.getfield 22, 3) := by decide +kernel
theorem dd_Wr_resemble_13 : decode cc_Wr_resemble 13 = .ok (.putfield 22, 3) := by decide +kernel
theorem dd_Wr_resemble_16 : decode cc_Wr_resemble 16 = .ok (.aload_n 1, 1) := by decide +kernel
theorem dd_Wr_resemble_17 : decode cc_Wr_resemble 17 = .ok (.getfield 9, 3) := by decide +kernel
theorem dd_Wr_resemble_20 : decode cc_Wr_resemble 20 = .ok (.iconst 0, 1) := by decide +kernel
theorem dd_Wr_resemble_21 : decode cc_Wr_resemble 21 = .ok (.aload_n 0, 1) := by decide +kernel
theorem dd_Wr_resemble_22 : decode cc_Wr_resemble 22 = .ok (.getfield 9, 3) := by decide +kernel
theorem dd_Wr_resemble_25 : decode cc_Wr_resemble 25 = .ok (.iconst 0, 1) := by decide +kernel
theorem dd_Wr_resemble_26 : decode cc_Wr_resemble 26 = .ok (.aload_n 0, 1) := by decide +kernel
theorem dd_Wr_resemble_27 : decode cc_Wr_resemble 27 = .ok (.getfield 18, 3) := by decide +kernel
theorem dd_Wr_resemble_30 : decode cc_Wr_resemble 30 = .ok (.invokestatic 25, 3) := by decide +kernel
theorem dd_Wr_resemble_33 : decode cc_Wr_resemble 33 = .ok (.aload_n 1, 1) := by decide +kernel
theorem dd_Wr_resemble_34 : decode cc_Wr_resemble 34 = .ok (.getfield 15, 3) := by decide +kernel
theorem dd_Wr_resemble_37 : decode cc_Wr_resemble 37 = .ok (.iconst 0, 1) := by decide +kernel
theorem dd_Wr_resemble_38 : decode cc_Wr_resemble 38 = .ok (.aload_n 0, 1) := by decide +kernel
theorem dd_Wr_resemble_39 : decode cc_Wr_resemble 39 = .ok (.getfield 15, 3) := by decide +kernel
theorem dd_Wr_resemble_42 : decode cc_Wr_resemble 42 = .ok (.iconst 0, 1) := by decide +kernel
theorem dd_Wr_resemble_43 : decode cc_Wr_resemble 43 = .ok (.aload_n 0, 1) := by decide +kernel
theorem dd_Wr_resemble_44 : decode cc_Wr_resemble 44 = .ok (.getfield 22, 3) := by decide +kernel
theorem dd_Wr_resemble_47 : decode cc_Wr_resemble 47 = .ok (.invokestatic 25, 3) := by decide +kernel
theorem dd_Wr_resemble_50 : decode cc_Wr_resemble 50 = .ok (.return_, 1) := by decide +kernel
set_option maxRecDepth 100000 in
set_option maxHeartbeats 4000000 in
theorem ct_Wr_resemble (l : Launch) (E : gf_E) (w : Int) (μ : gf_M) (hw : gf_oWr w) (o : Int) (ho : gf_oWr o) (hne : o ≤ w - 3 ∨ w + 3 ≤ o) (hs : 0 ≤ μ o 1 ∧ μ o 1 ≤ 8) (hd : 0 ≤ μ o 2 ∧ μ o 2 ≤ 40) : gf_Mv l E yy_Wr_resemble cc_Wr_resemble 2 (gf_rm 1 30) 81 gf_ref 0 0 81 gf_ref μ [.ref (gf_ad E w), .ref (gf_ad E o)] (fun μ' => μ' w 1 = μ o 1 ∧ μ' w 2 = μ o 2 ∧ (∀ j : Int, 0 ≤ j → j < μ o 1 → μ' (w + 1) j = μ (o + 1) j) ∧ (∀ j : Int, 0 ≤ j → j < μ o 2 → μ' (w + 2) j = μ (o + 2) j) ∧ ∀ a b : Int, ¬ (a = w ∧ (b = 1 ∨ b = 2)) → a ≠ w + 1 → a ≠ w + 2 → μ' a b = μ a b) := by
  refine gf_mv (by decide +kernel) (Nat.le_of_ble_eq_true rfl) (by decide) (fun X Q hlx C hname hQ => ?_)
  subst hlx
  replace C : gf_C X E cc_Wr_resemble 2 "GuardFigures$Writing" (gf_rm 1 30) := C
  show gf_G X E Q 2 gf_φ μ 0 [(0, .ref (gf_ad E w)), (1, .ref (gf_ad E o))] []
  refine gf_aload_n C dd_Wr_resemble_0 0 rfl ?_
  refine gf_aload_n C dd_Wr_resemble_1 1 rfl ?_
  refine gf_getI (z := 1) C gf_cl5 fl_Wr_18 dd_Wr_resemble_2 rfl rfl ho.1 (fun hv2 => ?_)
  refine gf_putI (z := 1) C gf_cl5 fl_Wr_18 dd_Wr_resemble_5 rfl rfl rfl (by decide +kernel) hw.1 (by omega) ?_
  refine gf_nmM (fun m5 hm5 => ?_)
  refine gf_aload_n C dd_Wr_resemble_8 0 rfl ?_
  refine gf_aload_n C dd_Wr_resemble_9 1 rfl ?_
  refine gf_getI (z := 2) C gf_cl5 fl_Wr_22 dd_Wr_resemble_10 rfl rfl ho.1 (fun hv10 => ?_)
  refine gf_putI (z := 2) C gf_cl5 fl_Wr_22 dd_Wr_resemble_13 rfl rfl rfl (by decide +kernel) hw.1 (by omega) ?_
  refine gf_nmM (fun m13 hm13 => ?_)
  have e5 : ∀ a b : Int, ¬ (a = w ∧ b = 1) → m5 a b = μ a b := fun a b h => by
    rw [hm5]; by_cases ha : a = w
    · exact gf_up_j (fun hb => h ⟨ha, hb⟩)
    · exact gf_up_k ha
  have e13 : ∀ a b : Int, ¬ (a = w ∧ (b = 1 ∨ b = 2)) → m13 a b = μ a b := fun a b h => by
    rw [hm13]; by_cases ha : a = w
    · rw [gf_up_j (by omega)]; exact e5 a b (by omega)
    · rw [gf_up_k ha]; exact e5 a b (by omega)
  have e131 : m13 w 1 = μ o 1 := by rw [hm13, gf_up_j (by decide), hm5]; exact gf_up_s
  have e132 : m13 w 2 = μ o 2 := by rw [hm13, gf_up_s]; exact e5 o 2 (by omega)
  refine gf_aload_n C dd_Wr_resemble_16 1 rfl ?_
  refine gf_getA (r := (o + 1)) C gf_cl5 fl_Wr_9 dd_Wr_resemble_17 rfl ho.1 ho.2.1 (ho.2.2.1).1 ?_
  refine gf_iconst C dd_Wr_resemble_20 ?_
  refine gf_aload_n C dd_Wr_resemble_21 0 rfl ?_
  refine gf_getA (r := (w + 1)) C gf_cl5 fl_Wr_9 dd_Wr_resemble_22 rfl hw.1 hw.2.1 (hw.2.2.1).1 ?_
  refine gf_iconst C dd_Wr_resemble_25 ?_
  refine gf_aload_n C dd_Wr_resemble_26 0 rfl ?_
  refine gf_getI (z := 1) C gf_cl5 fl_Wr_18 dd_Wr_resemble_27 rfl rfl hw.1 (fun hv27 => ?_)
  refine gf_copy (x := 0) (y := 0) (n := (m13 w 1)) rfl C (gf_mem 517 (by decide +kernel) (by decide +kernel)) gf_wCp.1 gf_wCp.2.1 gf_wCp.2.2 (by decide) (by decide +kernel) dd_Wr_resemble_30 ho.2.2.1 hw.2.2.1 (by omega) ?_
  refine gf_nmM (fun m30 hm30 => ?_)
  have e30 : ∀ a b : Int, a ≠ w + 1 → m30 a b = m13 a b := fun a b h => by rw [hm30]; simp [gf_cp, h]
  have e301 := e30 w 1 (by omega)
  have e302 := e30 w 2 (by omega)
  refine gf_aload_n C dd_Wr_resemble_33 1 rfl ?_
  refine gf_getA (r := (o + 2)) C gf_cl5 fl_Wr_15 dd_Wr_resemble_34 rfl ho.1 ho.2.2.2.1 (ho.2.2.2.2).1 ?_
  refine gf_iconst C dd_Wr_resemble_37 ?_
  refine gf_aload_n C dd_Wr_resemble_38 0 rfl ?_
  refine gf_getA (r := (w + 2)) C gf_cl5 fl_Wr_15 dd_Wr_resemble_39 rfl hw.1 hw.2.2.2.1 (hw.2.2.2.2).1 ?_
  refine gf_iconst C dd_Wr_resemble_42 ?_
  refine gf_aload_n C dd_Wr_resemble_43 0 rfl ?_
  refine gf_getI (z := 2) C gf_cl5 fl_Wr_22 dd_Wr_resemble_44 rfl rfl hw.1 (fun hv44 => ?_)
  refine gf_copy (x := 0) (y := 0) (n := (m30 w 2)) rfl C (gf_mem 517 (by decide +kernel) (by decide +kernel)) gf_wCp.1 gf_wCp.2.1 gf_wCp.2.2 (by decide) (by decide +kernel) dd_Wr_resemble_47 ho.2.2.2.2 hw.2.2.2.2 (by omega) ?_
  refine gf_nmM (fun m47 hm47 => ?_)
  refine gf_vret C hQ dd_Wr_resemble_50 ?_
  have e47 : ∀ a b : Int, a ≠ w + 2 → m47 a b = m30 a b := fun a b h => by rw [hm47]; simp [gf_cp, h]
  refine ⟨by rw [e47 _ _ (by omega)]; omega, by rw [e47 _ _ (by omega)]; omega, fun j h0 h1 => ?_, fun j h0 h1 => ?_, fun a b h1 h2 h3 => by rw [e47 _ _ h3, e30 _ _ h2]; exact e13 a b h1⟩
  · rw [e47 _ _ (by omega), hm30]
    unfold gf_cp
    rw [if_pos ⟨rfl, h0, by omega⟩, e13 _ _ (by omega)]
    congr 1
    omega
  · rw [hm47]
    unfold gf_cp
    rw [if_pos ⟨rfl, h0, by omega⟩, e30 _ _ (by omega), e13 _ _ (by omega)]
    congr 1
    omega

theorem dd_Wr_remember_0 : decode cc_Wr_remember 0 = .ok (.aload_n 0, 1) := by decide +kernel
theorem dd_Wr_remember_1 : decode cc_Wr_remember 1 = .ok (.getfield 22, 3) := by decide +kernel
theorem dd_Wr_remember_4 : decode cc_Wr_remember 4 = .ok (.bipush 40, 2) := by decide +kernel
theorem dd_Wr_remember_6 : decode cc_Wr_remember 6 = .ok (.if_icmp .lt 4, 3) := by decide +kernel
theorem dd_Wr_remember_9 : decode cc_Wr_remember 9 = .ok (.return_, 1) := by decide +kernel
theorem dd_Wr_remember_10 : decode cc_Wr_remember 10 = .ok (.iconst 1, 1) := by decide +kernel
theorem dd_Wr_remember_11 : decode cc_Wr_remember 11 = .ok (.istore_n 1, 1) := by decide +kernel
theorem dd_Wr_remember_12 : decode cc_Wr_remember 12 = .ok (.iconst 0, 1) := by decide +kernel
theorem dd_Wr_remember_13 : decode cc_Wr_remember 13 = .ok (.istore_n 2, 1) := by decide +kernel
theorem dd_Wr_remember_14 : decode cc_Wr_remember 14 = .ok (.iload_n 2, 1) := by decide +kernel
theorem dd_Wr_remember_15 : decode cc_Wr_remember 15 = .ok (.aload_n 0, 1) := by decide +kernel
theorem dd_Wr_remember_16 : decode cc_Wr_remember 16 = .ok (.getfield 18, 3) := by decide +kernel
theorem dd_Wr_remember_19 : decode cc_Wr_remember 19 = .ok (.if_icmp .ge 21, 3) := by decide +kernel
theorem dd_Wr_remember_22 : decode cc_Wr_remember 22 = .ok (.iload_n 1, 1) := by decide +kernel
theorem dd_Wr_remember_23 : decode cc_Wr_remember 23 = .ok (.bipush 10, 2) := by decide +kernel
theorem dd_Wr_remember_25 : decode cc_Wr_remember 25 = .ok (.imul, 1) := by decide +kernel
theorem dd_Wr_remember_26 : decode cc_Wr_remember 26 = .ok (.aload_n 0, 1) := by decide +kernel
theorem dd_Wr_remember_27 : decode cc_Wr_remember 27 = .ok (.getfield 9, 3) := by decide +kernel
theorem dd_Wr_remember_30 : decode cc_Wr_remember 30 = .ok (.iload_n 2, 1) := by decide +kernel
theorem dd_Wr_remember_31 : decode cc_Wr_remember 31 = .ok (.iaload, 1) := by decide +kernel
theorem dd_Wr_remember_32 : decode cc_Wr_remember 32 = .ok (.iadd, 1) := by decide +kernel
theorem dd_Wr_remember_33 : decode cc_Wr_remember 33 = .ok (.istore_n 1, 1) := by decide +kernel
theorem dd_Wr_remember_34 : decode cc_Wr_remember 34 = .ok (.iinc 2 1, 3) := by decide +kernel
theorem dd_Wr_remember_37 : decode cc_Wr_remember 37 = .ok (.goto (-23), 3) := by decide +kernel
theorem dd_Wr_remember_40 : decode cc_Wr_remember 40 = .ok (.aload_n 0, 1) := by decide +kernel
theorem dd_Wr_remember_41 : decode cc_Wr_remember 41 = .ok (.getfield 15, 3) := by decide +kernel
theorem dd_Wr_remember_44 : decode cc_Wr_remember 44 = .ok (.aload_n 0, 1) := by decide +kernel
theorem dd_Wr_remember_45 : decode cc_Wr_remember 45 = .ok (.getfield 22, 3) := by decide +kernel
theorem dd_Wr_remember_48 : decode cc_Wr_remember 48 = .ok (.iload_n 1, 1) := by decide +kernel
theorem dd_Wr_remember_49 : decode cc_Wr_remember 49 = .ok (.iastore, 1) := by decide +kernel
theorem dd_Wr_remember_50 : decode cc_Wr_remember 50 = .ok (.aload_n 0, 1) := by decide +kernel
theorem dd_Wr_remember_51 : decode cc_Wr_remember 51 = .ok (.dup, 1) := by decide +kernel
theorem dd_Wr_remember_52 : decode cc_Wr_remember 52 = .ok (.getfield 22, 3) := by decide +kernel
theorem dd_Wr_remember_55 : decode cc_Wr_remember 55 = .ok (.iconst 1, 1) := by decide +kernel
theorem dd_Wr_remember_56 : decode cc_Wr_remember 56 = .ok (.iadd, 1) := by decide +kernel
theorem dd_Wr_remember_57 : decode cc_Wr_remember 57 = .ok (.putfield 22, 3) := by decide +kernel
theorem dd_Wr_remember_60 : decode cc_Wr_remember 60 = .ok (.return_, 1) := by decide +kernel
set_option maxRecDepth 100000 in
set_option maxHeartbeats 4000000 in
theorem ct_Wr_remember (l : Launch) (E : gf_E) (w : Int) (μ : gf_M) (hw : gf_oWr w) (hs : 0 ≤ μ w 1 ∧ μ w 1 ≤ 8) (hd : 0 ≤ μ w 2 ∧ μ w 2 < 40) (hF : gf_okF μ (w + 1) (μ w 1)) : gf_Mv l E yy_Wr_remember cc_Wr_remember 3 (gf_rm 0 0) 81 gf_ref 0 0 81 gf_ref μ [.ref (gf_ad E w)] (fun μ' => μ' = gf_up (gf_up μ (w + 2) (μ w 2) (pf_enc (μ (w + 1)) (μ w 1).toNat)) w 2 (μ w 2 + 1)) := by
  refine gf_mv (by decide +kernel) (Nat.le_of_ble_eq_true rfl) (by decide) (fun X Q hlx C hname hQ => ?_)
  subst hlx
  replace C : gf_C X E cc_Wr_remember 3 "GuardFigures$Writing" (gf_rm 0 0) := C
  show gf_G X E Q 3 gf_φ μ 0 [(0, .ref (gf_ad E w))] []
  refine gf_aload_n C dd_Wr_remember_0 0 rfl ?_
  refine gf_getI (z := 2) C gf_cl5 fl_Wr_22 dd_Wr_remember_1 rfl rfl hw.1 (fun hv1 => ?_)
  refine gf_bipush C dd_Wr_remember_4 (by decide +kernel) ?_
  refine gf_icmp_lt 10 C dd_Wr_remember_6 (by decide) (by omega) (by omega) (fun h6 => ?_) (fun h6 => ?_)
  · skip
    refine gf_iconst C dd_Wr_remember_10 ?_
    refine gf_istore_n (lv' := [(1, .int (gf_i 1)), (0, .ref (gf_ad E w))]) C dd_Wr_remember_11 (by decide) rfl ?_
    refine gf_iconst C dd_Wr_remember_12 ?_
    refine gf_istore_n (lv' := [(2, .int (gf_i 0)), (1, .int (gf_i 1)), (0, .ref (gf_ad E w))]) C dd_Wr_remember_13 (by decide) rfl ?_
    have L14_1 : ∀ (N : Nat) (s i : Int) , (0 ≤ i ∧ i ≤ μ w 1 ∧ s = pf_enc (μ (w + 1)) i.toNat) → (8 - i).toNat < N → gf_G X E Q 3 gf_φ μ 14 [(1, .int (gf_i s)), (2, .int (gf_i i)), (0, .ref (gf_ad E w))] [] := by
      intro N
      induction N with
      | zero => intro s i hinv hN; exact absurd hN (Nat.not_lt_zero _)
      | succ N ih14_1 =>
        intro s i hinv hN
        have hinv0 := hinv
        obtain ⟨hi0, hi1, hi2⟩ := hinv
        have hB := pf_enc_8 (f := μ (w + 1)) (n := i.toNat) (by omega) (fun j h0 h1 => hF j h0 (by omega))
        rw [← hi2] at hB
        refine gf_iload_n C dd_Wr_remember_14 1 rfl ?_
        refine gf_aload_n C dd_Wr_remember_15 2 rfl ?_
        refine gf_getI (z := 1) C gf_cl5 fl_Wr_18 dd_Wr_remember_16 rfl rfl hw.1 (fun hv16 => ?_)
        refine gf_icmp_ge 40 C dd_Wr_remember_19 (by decide) (by omega) (by omega) (fun h19 => ?_) (fun h19 => ?_)
        · skip
          refine gf_aload_n C dd_Wr_remember_40 2 rfl ?_
          refine gf_getA (r := (w + 2)) C gf_cl5 fl_Wr_15 dd_Wr_remember_41 rfl hw.1 hw.2.2.2.1 (hw.2.2.2.2).1 ?_
          refine gf_aload_n C dd_Wr_remember_44 2 rfl ?_
          refine gf_getI (z := 2) C gf_cl5 fl_Wr_22 dd_Wr_remember_45 rfl rfl hw.1 (fun hv45 => ?_)
          refine gf_iload_n C dd_Wr_remember_48 0 rfl ?_
          refine gf_iast C dd_Wr_remember_49 hw.2.2.2.2 (by omega) (by omega) ?_
          refine gf_nmM (fun m49 hm49 => ?_)
          have e49 : m49 w 2 = μ w 2 := by rw [hm49]; exact gf_up_k (by omega)
          refine gf_aload_n C dd_Wr_remember_50 2 rfl ?_
          refine gf_dup C dd_Wr_remember_51 rfl ?_
          refine gf_getI (z := 2) C gf_cl5 fl_Wr_22 dd_Wr_remember_52 rfl rfl hw.1 (fun hv52 => ?_)
          refine gf_iconst C dd_Wr_remember_55 ?_
          refine gf_iadd C dd_Wr_remember_56 ?_
          refine gf_putI (z := 2) C gf_cl5 fl_Wr_22 dd_Wr_remember_57 rfl rfl rfl (by decide +kernel) hw.1 (by omega) ?_
          refine gf_nmM (fun m57 hm57 => ?_)
          refine gf_vret C hQ dd_Wr_remember_60 ?_
          rw [hm57, e49, hm49, hi2, show i = μ w 1 by omega]
        · skip
          refine gf_iload_n C dd_Wr_remember_22 0 rfl ?_
          refine gf_bipush C dd_Wr_remember_23 (by decide +kernel) ?_
          refine gf_imul C dd_Wr_remember_25 ?_
          refine gf_aload_n C dd_Wr_remember_26 2 rfl ?_
          refine gf_getA (r := (w + 1)) C gf_cl5 fl_Wr_9 dd_Wr_remember_27 rfl hw.1 hw.2.1 (hw.2.2.1).1 ?_
          refine gf_iload_n C dd_Wr_remember_30 1 rfl ?_
          have hfi := hF i (by omega) (by omega)
          refine gf_iald C dd_Wr_remember_31 hw.2.2.1 (by omega) (fun hv31 => ?_)
          refine gf_iadd C dd_Wr_remember_32 ?_
          refine gf_nm (fun x33 hx33 => ?_)
          refine gf_istore_n (lv' := [(1, .int (gf_i x33)), (2, .int (gf_i i)), (0, .ref (gf_ad E w))]) C dd_Wr_remember_33 (by decide) rfl ?_
          obtain ⟨x34, hx34⟩ : ∃ y : Int, y = i + 1 := ⟨_, rfl⟩
          refine gf_iinc (q := 1) (v := x34) (lv' := [(2, .int (gf_i x34)), (1, .int (gf_i x33)), (0, .ref (gf_ad E w))]) C dd_Wr_remember_34 rfl hx34 (by decide) rfl ?_
          refine gf_goto 14 C dd_Wr_remember_37 (by decide) ?_
          refine gf_lsub [1, 0, 2] rfl ?_
          exact ih14_1 x33 x34 (by
                  refine ⟨by omega, by omega, ?_⟩
                  rw [hx33, hx34, hi2, show (i + 1).toNat = i.toNat + 1 by omega]
                  show _ = _ * 10 + μ (w + 1) ((i.toNat : Nat) : Int)
                  rw [show ((i.toNat : Nat) : Int) = i by omega]) (by omega)
    refine gf_lsub [1, 0, 2] rfl ?_
    exact L14_1 _ 1 0 (⟨by omega, by omega, rfl⟩) (Nat.lt_succ_self _)
  · skip
    refine gf_vret C hQ dd_Wr_remember_9 ?_
    omega

theorem dd_Wr_append_0 : decode cc_Wr_append 0 = .ok (.aload_n 0, 1) := by decide +kernel
theorem dd_Wr_append_1 : decode cc_Wr_append 1 = .ok (.getfield 18, 3) := by decide +kernel
theorem dd_Wr_append_4 : decode cc_Wr_append 4 = .ok (.bipush 8, 2) := by decide +kernel
theorem dd_Wr_append_6 : decode cc_Wr_append 6 = .ok (.if_icmp .ge 23, 3) := by decide +kernel
theorem dd_Wr_append_9 : decode cc_Wr_append 9 = .ok (.aload_n 0, 1) := by decide +kernel
theorem dd_Wr_append_10 : decode cc_Wr_append 10 = .ok (.getfield 9, 3) := by decide +kernel
theorem dd_Wr_append_13 : decode cc_Wr_append 13 = .ok (.aload_n 0, 1) := by decide +kernel
theorem dd_Wr_append_14 : decode cc_Wr_append 14 = .ok (.getfield 18, 3) := by decide +kernel
theorem dd_Wr_append_17 : decode cc_Wr_append 17 = .ok (.iload_n 1, 1) := by decide +kernel
theorem dd_Wr_append_18 : decode cc_Wr_append 18 = .ok (.iastore, 1) := by decide +kernel
theorem dd_Wr_append_19 : decode cc_Wr_append 19 = .ok (.aload_n 0, 1) := by decide +kernel
theorem dd_Wr_append_20 : decode cc_Wr_append 20 = .ok (.dup, 1) := by decide +kernel
theorem dd_Wr_append_21 : decode cc_Wr_append 21 = .ok (.getfield 18, 3) := by decide +kernel
theorem dd_Wr_append_24 : decode cc_Wr_append 24 = .ok (.iconst 1, 1) := by decide +kernel
theorem dd_Wr_append_25 : decode cc_Wr_append 25 = .ok (.iadd, 1) := by decide +kernel
theorem dd_Wr_append_26 : decode cc_Wr_append 26 = .ok (.putfield 18, 3) := by decide +kernel
theorem dd_Wr_append_29 : decode cc_Wr_append 29 = .ok (.return_, 1) := by decide +kernel
set_option maxRecDepth 100000 in
set_option maxHeartbeats 4000000 in
theorem ct_Wr_append (l : Launch) (E : gf_E) (w : Int) (μ : gf_M) (hw : gf_oWr w) (f : Int) (hs : 0 ≤ μ w 1 ∧ μ w 1 ≤ 8) (hf : gf_R f) : gf_Mv l E yy_Wr_append cc_Wr_append 2 (gf_rm 0 0) 81 gf_ref 0 0 81 gf_ref μ [.ref (gf_ad E w), .int (gf_i f)] (fun μ' => μ' = if μ w 1 < 8 then gf_up (gf_up μ (w + 1) (μ w 1) f) w 1 (μ w 1 + 1) else μ) := by
  refine gf_mv (by decide +kernel) (Nat.le_of_ble_eq_true rfl) (by decide) (fun X Q hlx C hname hQ => ?_)
  subst hlx
  replace C : gf_C X E cc_Wr_append 2 "GuardFigures$Writing" (gf_rm 0 0) := C
  show gf_G X E Q 2 gf_φ μ 0 [(0, .ref (gf_ad E w)), (1, .int (gf_i f))] []
  refine gf_aload_n C dd_Wr_append_0 0 rfl ?_
  refine gf_getI (z := 1) C gf_cl5 fl_Wr_18 dd_Wr_append_1 rfl rfl hw.1 (fun hv1 => ?_)
  refine gf_bipush C dd_Wr_append_4 (by decide +kernel) ?_
  refine gf_icmp_ge 29 C dd_Wr_append_6 (by decide) (by omega) (by omega) (fun h6 => ?_) (fun h6 => ?_)
  · skip
    refine gf_vret C hQ dd_Wr_append_29 ?_
    first | (rw [if_pos (by omega), hm26, e18, hm18]; done) | (rw [if_neg (by omega)]; done)
  · skip
    refine gf_aload_n C dd_Wr_append_9 0 rfl ?_
    refine gf_getA (r := (w + 1)) C gf_cl5 fl_Wr_9 dd_Wr_append_10 rfl hw.1 hw.2.1 (hw.2.2.1).1 ?_
    refine gf_aload_n C dd_Wr_append_13 0 rfl ?_
    refine gf_getI (z := 1) C gf_cl5 fl_Wr_18 dd_Wr_append_14 rfl rfl hw.1 (fun hv14 => ?_)
    refine gf_iload_n C dd_Wr_append_17 1 rfl ?_
    refine gf_iast C dd_Wr_append_18 hw.2.2.1 (by omega) (by omega) ?_
    refine gf_nmM (fun m18 hm18 => ?_)
    have e18 : m18 w 1 = μ w 1 := by rw [hm18]; exact gf_up_k (by omega)
    refine gf_aload_n C dd_Wr_append_19 0 rfl ?_
    refine gf_dup C dd_Wr_append_20 rfl ?_
    refine gf_getI (z := 1) C gf_cl5 fl_Wr_18 dd_Wr_append_21 rfl rfl hw.1 (fun hv21 => ?_)
    refine gf_iconst C dd_Wr_append_24 ?_
    refine gf_iadd C dd_Wr_append_25 ?_
    refine gf_putI (z := 1) C gf_cl5 fl_Wr_18 dd_Wr_append_26 rfl rfl rfl (by decide +kernel) hw.1 (by omega) ?_
    refine gf_nmM (fun m26 hm26 => ?_)
    refine gf_vret C hQ dd_Wr_append_29 ?_
    first | (rw [if_pos (by omega), hm26, e18, hm18]; done) | (rw [if_neg (by omega)]; done)

theorem dd_Wr_removeLast_0 : decode cc_Wr_removeLast 0 = .ok (.aload_n 0, 1) := by decide +kernel
theorem dd_Wr_removeLast_1 : decode cc_Wr_removeLast 1 = .ok (.getfield 18, 3) := by decide +kernel
theorem dd_Wr_removeLast_4 : decode cc_Wr_removeLast 4 = .ok (.ifCond .ne 6, 3) := by decide +kernel
theorem dd_Wr_removeLast_7 : decode cc_Wr_removeLast 7 = .ok (.bipush (-9), 2) := by decide +kernel
theorem dd_Wr_removeLast_9 : decode cc_Wr_removeLast 9 = .ok (.ireturn, 1) := by decide +kernel
theorem dd_Wr_removeLast_10 : decode cc_Wr_removeLast 10 = .ok (.aload_n 0, 1) := by decide +kernel
theorem dd_Wr_removeLast_11 : decode cc_Wr_removeLast 11 = .ok (.dup, 1) := by decide +kernel
theorem dd_Wr_removeLast_12 : decode cc_Wr_removeLast 12 = .ok (.getfield 18, 3) := by decide +kernel
theorem dd_Wr_removeLast_15 : decode cc_Wr_removeLast 15 = .ok (.iconst 1, 1) := by decide +kernel
theorem dd_Wr_removeLast_16 : decode cc_Wr_removeLast 16 = .ok (.isub, 1) := by decide +kernel
theorem dd_Wr_removeLast_17 : decode cc_Wr_removeLast 17 = .ok (.putfield 18, 3) := by decide +kernel
theorem dd_Wr_removeLast_20 : decode cc_Wr_removeLast 20 = .ok (.aload_n 0, 1) := by decide +kernel
theorem dd_Wr_removeLast_21 : decode cc_Wr_removeLast 21 = .ok (.getfield 9, 3) := by decide +kernel
theorem dd_Wr_removeLast_24 : decode cc_Wr_removeLast 24 = .ok (.aload_n 0, 1) := by decide +kernel
theorem dd_Wr_removeLast_25 : decode cc_Wr_removeLast 25 = .ok (.getfield 18, 3) := by decide +kernel
theorem dd_Wr_removeLast_28 : decode cc_Wr_removeLast 28 = .ok (.iaload, 1) := by decide +kernel
theorem dd_Wr_removeLast_29 : decode cc_Wr_removeLast 29 = .ok (.ireturn, 1) := by decide +kernel
set_option maxRecDepth 100000 in
set_option maxHeartbeats 4000000 in
theorem ct_Wr_removeLast (l : Launch) (E : gf_E) (w : Int) (μ : gf_M) (hw : gf_oWr w) (hs : 0 ≤ μ w 1 ∧ μ w 1 ≤ 8) : gf_Mi l E yy_Wr_removeLast cc_Wr_removeLast 1 .int (gf_rm 0 0) 81 gf_ref μ [.ref (gf_ad E w)] (fun r μ' => (μ w 1 = 0 → r = -9 ∧ μ' = μ) ∧ (μ w 1 ≠ 0 → r = μ (w + 1) (μ w 1 - 1) ∧ μ' = gf_up μ w 1 (μ w 1 - 1))) := by
  refine gf_mi (by decide +kernel) (Nat.le_of_ble_eq_true rfl) (by decide) (fun X Q hlx C hQ => ?_)
  subst hlx
  replace C : gf_C X E cc_Wr_removeLast 1 "GuardFigures$Writing" (gf_rm 0 0) := C
  show gf_G X E Q 1 gf_φ μ 0 [(0, .ref (gf_ad E w))] []
  refine gf_aload_n C dd_Wr_removeLast_0 0 rfl ?_
  refine gf_getI (z := 1) C gf_cl5 fl_Wr_18 dd_Wr_removeLast_1 rfl rfl hw.1 (fun hv1 => ?_)
  refine gf_if_ne 10 C dd_Wr_removeLast_4 (by decide) (by omega) (fun h4 => ?_) (fun h4 => ?_)
  · skip
    refine gf_aload_n C dd_Wr_removeLast_10 0 rfl ?_
    refine gf_dup C dd_Wr_removeLast_11 rfl ?_
    refine gf_getI (z := 1) C gf_cl5 fl_Wr_18 dd_Wr_removeLast_12 rfl rfl hw.1 (fun hv12 => ?_)
    refine gf_iconst C dd_Wr_removeLast_15 ?_
    refine gf_isub C dd_Wr_removeLast_16 ?_
    refine gf_putI (z := 1) C gf_cl5 fl_Wr_18 dd_Wr_removeLast_17 rfl rfl rfl (by decide +kernel) hw.1 (by omega) ?_
    refine gf_nmM (fun m17 hm17 => ?_)
    have e17 : m17 w 1 = μ w 1 - 1 := by rw [hm17]; exact gf_up_s
    refine gf_aload_n C dd_Wr_removeLast_20 0 rfl ?_
    refine gf_getA (r := (w + 1)) C gf_cl5 fl_Wr_9 dd_Wr_removeLast_21 rfl hw.1 hw.2.1 (hw.2.2.1).1 ?_
    refine gf_aload_n C dd_Wr_removeLast_24 0 rfl ?_
    refine gf_getI (z := 1) C gf_cl5 fl_Wr_18 dd_Wr_removeLast_25 rfl rfl hw.1 (fun hv25 => ?_)
    refine gf_iald C dd_Wr_removeLast_28 hw.2.2.1 (by omega) (fun hv28 => ?_)
    refine gf_iret C hQ dd_Wr_removeLast_29 (by omega) ?_
    refine ⟨fun h => absurd h h4, fun _ => ⟨?_, hm17⟩⟩
    rw [e17, hm17]
    exact gf_up_k (by omega)
  · skip
    refine gf_bipush C dd_Wr_removeLast_7 (by decide +kernel) ?_
    refine gf_iret C hQ dd_Wr_removeLast_9 (by omega) ?_
    exact ⟨fun _ => ⟨rfl, rfl⟩, fun h => absurd h4 h⟩

theorem dd_Wr_doByLot_0 : decode cc_Wr_doByLot 0 = .ok (.iload_n 1, 1) := by decide +kernel
theorem dd_Wr_doByLot_1 : decode cc_Wr_doByLot 1 = .ok (.bipush 8, 2) := by decide +kernel
theorem dd_Wr_doByLot_3 : decode cc_Wr_doByLot 3 = .ok (.idiv, 1) := by decide +kernel
theorem dd_Wr_doByLot_4 : decode cc_Wr_doByLot 4 = .ok (.bipush 10, 2) := by decide +kernel
theorem dd_Wr_doByLot_6 : decode cc_Wr_doByLot 6 = .ok (.irem, 1) := by decide +kernel
theorem dd_Wr_doByLot_7 : decode cc_Wr_doByLot 7 = .ok (.istore_n 2, 1) := by decide +kernel
theorem dd_Wr_doByLot_8 : decode cc_Wr_doByLot 8 = .ok (.iload_n 1, 1) := by decide +kernel
theorem dd_Wr_doByLot_9 : decode cc_Wr_doByLot 9 = .ok (.sipush 128, 3) := by decide +kernel
theorem dd_Wr_doByLot_12 : decode cc_Wr_doByLot 12 = .ok (.idiv, 1) := by decide +kernel
theorem dd_Wr_doByLot_13 : decode cc_Wr_doByLot 13 = .ok (.bipush 8, 2) := by decide +kernel
theorem dd_Wr_doByLot_15 : decode cc_Wr_doByLot 15 = .ok (.irem, 1) := by decide +kernel
theorem dd_Wr_doByLot_16 : decode cc_Wr_doByLot 16 = .ok (.istore_n 3, 1) := by decide +kernel
theorem dd_Wr_doByLot_17 : decode cc_Wr_doByLot 17 = .ok (.iload_n 1, 1) := by decide +kernel
theorem dd_Wr_doByLot_18 : decode cc_Wr_doByLot 18 = .ok (.iconst 4, 1) := by decide +kernel
theorem dd_Wr_doByLot_19 : decode cc_Wr_doByLot 19 = .ok (.irem, 1) := by decide +kernel
theorem dd_Wr_doByLot_20 : decode cc_Wr_doByLot 20 = .ok (.istore 4, 2) := by decide +kernel
theorem dd_Wr_doByLot_22 : decode cc_Wr_doByLot 22 = .ok (.iload 4, 2) := by decide +kernel
theorem dd_Wr_doByLot_24 : decode cc_Wr_doByLot 24 = .ok (.iconst 1, 1) := by decide +kernel
theorem dd_Wr_doByLot_25 : decode cc_Wr_doByLot 25 = .ok (.if_icmp .gt 11, 3) := by decide +kernel
theorem dd_Wr_doByLot_28 : decode cc_Wr_doByLot 28 = .ok (.aload_n 0, 1) := by decide +kernel
theorem dd_Wr_doByLot_29 : decode cc_Wr_doByLot 29 = .ok (.iload_n 2, 1) := by decide +kernel
theorem dd_Wr_doByLot_30 : decode cc_Wr_doByLot 30 = .ok (.invokevirtual 31, 3) := by decide +kernel
theorem dd_Wr_doByLot_33 : decode cc_Wr_doByLot 33 = .ok (.goto 35, 3) := by decide +kernel
theorem dd_Wr_doByLot_36 : decode cc_Wr_doByLot 36 = .ok (.iload 4, 2) := by decide +kernel
theorem dd_Wr_doByLot_38 : decode cc_Wr_doByLot 38 = .ok (.iconst 2, 1) := by decide +kernel
theorem dd_Wr_doByLot_39 : decode cc_Wr_doByLot 39 = .ok (.if_icmp .ne 11, 3) := by decide +kernel
theorem dd_Wr_doByLot_42 : decode cc_Wr_doByLot 42 = .ok (.aload_n 0, 1) := by decide +kernel
theorem dd_Wr_doByLot_43 : decode cc_Wr_doByLot 43 = .ok (.invokevirtual 35, 3) := by decide +kernel
theorem dd_Wr_doByLot_46 : decode cc_Wr_doByLot 46 = .ok (.pop, 1) := by decide +kernel
theorem dd_Wr_doByLot_47 : decode cc_Wr_doByLot 47 = .ok (.goto 21, 3) := by decide +kernel
theorem dd_Wr_doByLot_50 : decode cc_Wr_doByLot 50 = .ok (.iload_n 3, 1) := by decide +kernel
theorem dd_Wr_doByLot_51 : decode cc_Wr_doByLot 51 = .ok (.aload_n 0, 1) := by decide +kernel
theorem dd_Wr_doByLot_52 : decode cc_Wr_doByLot 52 = .ok (.getfield 18, 3) := by decide +kernel
theorem dd_Wr_doByLot_55 : decode cc_Wr_doByLot 55 = .ok (.invokestatic 39, 3) := by decide +kernel
theorem dd_Wr_doByLot_58 : decode cc_Wr_doByLot 58 = .ok (.ifCond .eq 10, 3) := by decide +kernel
theorem dd_Wr_doByLot_61 : decode cc_Wr_doByLot 61 = .ok (.aload_n 0, 1) := by decide +kernel
theorem dd_Wr_doByLot_62 : decode cc_Wr_doByLot 62 = .ok (.getfield 9, 3) := by decide +kernel
theorem dd_Wr_doByLot_65 : decode cc_Wr_doByLot 65 = .ok (.iload_n 3, 1) := by decide +kernel
theorem dd_Wr_doByLot_66 : decode cc_Wr_doByLot 66 = .ok (.iload_n 2, 1) := by decide +kernel
theorem dd_Wr_doByLot_67 : decode cc_Wr_doByLot 67 = .ok (.iastore, 1) := by decide +kernel
theorem dd_Wr_doByLot_68 : decode cc_Wr_doByLot 68 = .ok (.return_, 1) := by decide +kernel
set_option maxRecDepth 100000 in
set_option maxHeartbeats 4000000 in
theorem ct_Wr_doByLot (l : Launch) (E : gf_E) (w : Int) (μ : gf_M) (hw : gf_oWr w) (lot : Int) (hs : 0 ≤ μ w 1 ∧ μ w 1 ≤ 8) (hl : 0 ≤ lot ∧ lot ≤ 2147483647) : gf_Mv l E yy_Wr_doByLot cc_Wr_doByLot 5 (gf_rm 1 21) 81 gf_ref 0 0 81 gf_ref μ [.ref (gf_ad E w), .int (gf_i lot)] (fun μ' => μ' = pf_lotW μ w lot) := by
  refine gf_mv (by decide +kernel) (Nat.le_of_ble_eq_true rfl) (by decide) (fun X Q hlx C hname hQ => ?_)
  subst hlx
  replace C : gf_C X E cc_Wr_doByLot 5 "GuardFigures$Writing" (gf_rm 1 21) := C
  show gf_G X E Q 5 gf_φ μ 0 [(0, .ref (gf_ad E w)), (1, .int (gf_i lot))] []
  refine gf_iload_n C dd_Wr_doByLot_0 1 rfl ?_
  refine gf_bipush C dd_Wr_doByLot_1 (by decide +kernel) ?_
  refine gf_idiv C dd_Wr_doByLot_3 (by omega) ?_
  refine gf_bipush C dd_Wr_doByLot_4 (by decide +kernel) ?_
  refine gf_irem C dd_Wr_doByLot_6 (by omega) ?_
  refine gf_nm (fun x7 hx7 => ?_)
  refine gf_istore_n (lv' := [(2, .int (gf_i x7)), (0, .ref (gf_ad E w)), (1, .int (gf_i lot))]) C dd_Wr_doByLot_7 (by decide) rfl ?_
  refine gf_iload_n C dd_Wr_doByLot_8 2 rfl ?_
  refine gf_sipush C dd_Wr_doByLot_9 (by decide +kernel) ?_
  refine gf_idiv C dd_Wr_doByLot_12 (by omega) ?_
  refine gf_bipush C dd_Wr_doByLot_13 (by decide +kernel) ?_
  refine gf_irem C dd_Wr_doByLot_15 (by omega) ?_
  refine gf_nm (fun x16 hx16 => ?_)
  refine gf_istore_n (lv' := [(3, .int (gf_i x16)), (2, .int (gf_i x7)), (0, .ref (gf_ad E w)), (1, .int (gf_i lot))]) C dd_Wr_doByLot_16 (by decide) rfl ?_
  refine gf_iload_n C dd_Wr_doByLot_17 3 rfl ?_
  refine gf_iconst C dd_Wr_doByLot_18 ?_
  refine gf_irem C dd_Wr_doByLot_19 (by omega) ?_
  refine gf_nm (fun x20 hx20 => ?_)
  refine gf_istore (lv' := [(4, .int (gf_i x20)), (3, .int (gf_i x16)), (2, .int (gf_i x7)), (0, .ref (gf_ad E w)), (1, .int (gf_i lot))]) C dd_Wr_doByLot_20 (by decide) rfl ?_
  refine gf_iload C dd_Wr_doByLot_22 0 rfl ?_
  refine gf_iconst C dd_Wr_doByLot_24 ?_
  refine gf_icmp_gt 36 C dd_Wr_doByLot_25 (by decide) (by omega) (by omega) (fun h25 => ?_) (fun h25 => ?_)
  · skip
    refine gf_iload C dd_Wr_doByLot_36 0 rfl ?_
    refine gf_iconst C dd_Wr_doByLot_38 ?_
    refine gf_icmp_ne 50 C dd_Wr_doByLot_39 (by decide) (by omega) (by omega) (fun h39 => ?_) (fun h39 => ?_)
    · skip
      refine gf_iload_n C dd_Wr_doByLot_50 1 rfl ?_
      refine gf_aload_n C dd_Wr_doByLot_51 3 rfl ?_
      refine gf_getI (z := 1) C gf_cl5 fl_Wr_18 dd_Wr_doByLot_52 rfl rfl hw.1 (fun hv52 => ?_)
      refine gf_callNi (st := []) (As := [.int (gf_i x16), .int (gf_i (μ w 1))]) C im_Fi_isWithin C.2.2.2.2.2.2.1.2.2.2.2.2.2.2.2.2.2.2 (ct_Fi_isWithin (gf_xl X) E x16 (μ w 1) μ (by omega) (by omega)) rfl ⟨rfl, rfl, rfl, rfl⟩ (Nat.le_of_ble_eq_true rfl) rfl dd_Wr_doByLot_55 (fun r55 m55 hR55 hp55 => ?_)
      have hr55 := hp55.1
      refine gf_pm hp55.2 ?_
      refine gf_if_eq 68 C dd_Wr_doByLot_58 (by decide) (by omega) (fun h58 => ?_) (fun h58 => ?_)
      · skip
        refine gf_vret C hQ dd_Wr_doByLot_68 ?_
        unfold pf_lotW
        rw [← hx20, ← hx7, ← hx16]
        first
          | (rw [if_pos (by omega)]; exact hp30)
          | (rw [if_neg (by omega), if_pos (by omega)]; by_cases hz : μ w 1 = 0; (rw [if_pos hz]; exact (hp43.1 hz).2); (rw [if_neg hz]; exact (hp43.2 hz).2))
          | (rw [if_neg (by omega), if_neg (by omega), if_pos (by have := hr55.2; omega)]; exact hm67)
          | (rw [if_neg (by omega), if_neg (by omega), if_neg (by have := hr55.1; omega)])
      · skip
        refine gf_aload_n C dd_Wr_doByLot_61 3 rfl ?_
        refine gf_getA (r := (w + 1)) C gf_cl5 fl_Wr_9 dd_Wr_doByLot_62 rfl hw.1 hw.2.1 (hw.2.2.1).1 ?_
        refine gf_iload_n C dd_Wr_doByLot_65 1 rfl ?_
        refine gf_iload_n C dd_Wr_doByLot_66 2 rfl ?_
        refine gf_iast C dd_Wr_doByLot_67 hw.2.2.1 (by omega) (by omega) ?_
        refine gf_nmM (fun m67 hm67 => ?_)
        refine gf_vret C hQ dd_Wr_doByLot_68 ?_
        unfold pf_lotW
        rw [← hx20, ← hx7, ← hx16]
        first
          | (rw [if_pos (by omega)]; exact hp30)
          | (rw [if_neg (by omega), if_pos (by omega)]; by_cases hz : μ w 1 = 0; (rw [if_pos hz]; exact (hp43.1 hz).2); (rw [if_neg hz]; exact (hp43.2 hz).2))
          | (rw [if_neg (by omega), if_neg (by omega), if_pos (by have := hr55.2; omega)]; exact hm67)
          | (rw [if_neg (by omega), if_neg (by omega), if_neg (by have := hr55.1; omega)])
    · skip
      refine gf_aload_n C dd_Wr_doByLot_42 3 rfl ?_
      refine gf_callVi (st := []) (As := []) C wk_Wr_35 gf_cl5 hw.1 (ct_Wr_removeLast (gf_xl X) E w μ hw (by omega)) rfl ⟨rfl, rfl, rfl, rfl⟩ (Nat.le_of_ble_eq_true rfl) rfl dd_Wr_doByLot_43 (fun r43 m43 hR43 hp43 => ?_)
      refine gf_pop C dd_Wr_doByLot_46 rfl ?_
      refine gf_goto 68 C dd_Wr_doByLot_47 (by decide) ?_
      refine gf_vret C hQ dd_Wr_doByLot_68 ?_
      unfold pf_lotW
      rw [← hx20, ← hx7, ← hx16]
      first
        | (rw [if_pos (by omega)]; exact hp30)
        | (rw [if_neg (by omega), if_pos (by omega)]; by_cases hz : μ w 1 = 0; (rw [if_pos hz]; exact (hp43.1 hz).2); (rw [if_neg hz]; exact (hp43.2 hz).2))
        | (rw [if_neg (by omega), if_neg (by omega), if_pos (by have := hr55.2; omega)]; exact hm67)
        | (rw [if_neg (by omega), if_neg (by omega), if_neg (by have := hr55.1; omega)])
  · skip
    refine gf_aload_n C dd_Wr_doByLot_28 3 rfl ?_
    refine gf_iload_n C dd_Wr_doByLot_29 2 rfl ?_
    refine gf_callVv (st := []) (As := [.int (gf_i x7)]) C wk_Wr_31 gf_cl5 hw.1 (ct_Wr_append (gf_xl X) E w μ hw x7 (by omega) (by omega)) rfl ⟨rfl, rfl, rfl, rfl⟩ (Nat.le_of_ble_eq_true rfl) rfl dd_Wr_doByLot_30 (fun m30 hp30 => ?_)
    refine gf_goto 68 C dd_Wr_doByLot_33 (by decide) ?_
    refine gf_vret C hQ dd_Wr_doByLot_68 ?_
    unfold pf_lotW
    rw [← hx20, ← hx7, ← hx16]
    first
      | (rw [if_pos (by omega)]; exact hp30)
      | (rw [if_neg (by omega), if_pos (by omega)]; by_cases hz : μ w 1 = 0; (rw [if_pos hz]; exact (hp43.1 hz).2); (rw [if_neg hz]; exact (hp43.2 hz).2))
      | (rw [if_neg (by omega), if_neg (by omega), if_pos (by have := hr55.2; omega)]; exact hm67)
      | (rw [if_neg (by omega), if_neg (by omega), if_neg (by have := hr55.1; omega)])

theorem dd_Wr_goBackTo_0 : decode cc_Wr_goBackTo 0 = .ok (.iload_n 1, 1) := by decide +kernel
theorem dd_Wr_goBackTo_1 : decode cc_Wr_goBackTo 1 = .ok (.ifCond .lt 11, 3) := by decide +kernel
theorem dd_Wr_goBackTo_4 : decode cc_Wr_goBackTo 4 = .ok (.iload_n 1, 1) := by decide +kernel
theorem dd_Wr_goBackTo_5 : decode cc_Wr_goBackTo 5 = .ok (.aload_n 0, 1) := by decide +kernel
theorem dd_Wr_goBackTo_6 : decode cc_Wr_goBackTo 6 = .ok (.getfield 22, 3) := by decide +kernel
theorem dd_Wr_goBackTo_9 : decode cc_Wr_goBackTo 9 = .ok (.if_icmp .lt 4, 3) := by decide +kernel
theorem dd_Wr_goBackTo_12 : decode cc_Wr_goBackTo 12 = .ok (.return_, 1) := by decide +kernel
theorem dd_Wr_goBackTo_13 : decode cc_Wr_goBackTo 13 = .ok (.aload_n 0, 1) := by decide +kernel
theorem dd_Wr_goBackTo_14 : decode cc_Wr_goBackTo 14 = .ok (.iload_n 1, 1) := by decide +kernel
theorem dd_Wr_goBackTo_15 : decode cc_Wr_goBackTo 15 = .ok (.putfield 22, 3) := by decide +kernel
theorem dd_Wr_goBackTo_18 : decode cc_Wr_goBackTo 18 = .ok (.aload_n 0, 1) := by decide +kernel
theorem dd_Wr_goBackTo_19 : decode cc_Wr_goBackTo 19 = .ok (.iconst 0, 1) := by decide +kernel
theorem dd_Wr_goBackTo_20 : decode cc_Wr_goBackTo 20 = .ok (.putfield 18, 3) := by decide +kernel
theorem dd_Wr_goBackTo_23 : decode cc_Wr_goBackTo 23 = .ok (.aload_n 0, 1) := by decide +kernel
theorem dd_Wr_goBackTo_24 : decode cc_Wr_goBackTo 24 = .ok (.getfield 15, 3) := by decide +kernel
theorem dd_Wr_goBackTo_27 : decode cc_Wr_goBackTo 27 = .ok (.iload_n 1, 1) := by decide +kernel
theorem dd_Wr_goBackTo_28 : decode cc_Wr_goBackTo 28 = .ok (.iaload, 1) := by decide +kernel
theorem dd_Wr_goBackTo_29 : decode cc_Wr_goBackTo 29 = .ok (.istore_n 2, 1) := by decide +kernel
theorem dd_Wr_goBackTo_30 : decode cc_Wr_goBackTo 30 = .ok (.iload_n 2, 1) := by decide +kernel
theorem dd_Wr_goBackTo_31 : decode cc_Wr_goBackTo 31 = .ok (.bipush 10, 2) := by decide +kernel
theorem dd_Wr_goBackTo_33 : decode cc_Wr_goBackTo 33 = .ok (.if_icmp .lt 30, 3) := by decide +kernel
theorem dd_Wr_goBackTo_36 : decode cc_Wr_goBackTo 36 = .ok (.aload_n 0, 1) := by decide +kernel
theorem dd_Wr_goBackTo_37 : decode cc_Wr_goBackTo 37 = .ok (.getfield 18, 3) := by decide +kernel
theorem dd_Wr_goBackTo_40 : decode cc_Wr_goBackTo 40 = .ok (.bipush 8, 2) := by decide +kernel
theorem dd_Wr_goBackTo_42 : decode cc_Wr_goBackTo 42 = .ok (.if_icmp .ge 21, 3) := by decide +kernel
theorem dd_Wr_goBackTo_45 : decode cc_Wr_goBackTo 45 = .ok (.aload_n 0, 1) := by decide +kernel
theorem dd_Wr_goBackTo_46 : decode cc_Wr_goBackTo 46 = .ok (.dup, 1) := by decide +kernel
theorem dd_Wr_goBackTo_47 : decode cc_Wr_goBackTo 47 = .ok (.getfield 18, 3) := by decide +kernel
theorem dd_Wr_goBackTo_50 : decode cc_Wr_goBackTo 50 = .ok (.iconst 1, 1) := by decide +kernel
theorem dd_Wr_goBackTo_51 : decode cc_Wr_goBackTo 51 = .ok (.iadd, 1) := by decide +kernel
theorem dd_Wr_goBackTo_52 : decode cc_Wr_goBackTo 52 = .ok (.putfield 18, 3) := by decide +kernel
theorem dd_Wr_goBackTo_55 : decode cc_Wr_goBackTo 55 = .ok (.iload_n 2, 1) := by decide +kernel
theorem dd_Wr_goBackTo_56 : decode cc_Wr_goBackTo 56 = .ok (.bipush 10, 2) := by decide +kernel
theorem dd_Wr_goBackTo_58 : decode cc_Wr_goBackTo 58 = .ok (.idiv, 1) := by decide +kernel
theorem dd_Wr_goBackTo_59 : decode cc_Wr_goBackTo 59 = .ok (.istore_n 2, 1) := by decide +kernel
theorem dd_Wr_goBackTo_60 : decode cc_Wr_goBackTo 60 = .ok (.goto (-30), 3) := by decide +kernel
theorem dd_Wr_goBackTo_63 : decode cc_Wr_goBackTo 63 = .ok (.aload_n 0, 1) := by decide +kernel
theorem dd_Wr_goBackTo_64 : decode cc_Wr_goBackTo 64 = .ok (.getfield 15, 3) := by decide +kernel
theorem dd_Wr_goBackTo_67 : decode cc_Wr_goBackTo 67 = .ok (.iload_n 1, 1) := by decide +kernel
theorem dd_Wr_goBackTo_68 : decode cc_Wr_goBackTo 68 = .ok (.iaload, 1) := by decide +kernel
theorem dd_Wr_goBackTo_69 : decode cc_Wr_goBackTo 69 = .ok (.istore_n 2, 1) := by decide +kernel
theorem dd_Wr_goBackTo_70 : decode cc_Wr_goBackTo 70 = .ok (.aload_n 0, 1) := by decide +kernel
theorem dd_Wr_goBackTo_71 : decode cc_Wr_goBackTo 71 = .ok (.getfield 18, 3) := by decide +kernel
theorem dd_Wr_goBackTo_74 : decode cc_Wr_goBackTo 74 = .ok (.iconst 1, 1) := by decide +kernel
theorem dd_Wr_goBackTo_75 : decode cc_Wr_goBackTo 75 = .ok (.isub, 1) := by decide +kernel
theorem dd_Wr_goBackTo_76 : decode cc_Wr_goBackTo 76 = .ok (.istore_n 3, 1) := by decide +kernel
theorem dd_Wr_goBackTo_77 : decode cc_Wr_goBackTo 77 = .ok (.iload_n 3, 1) := by decide +kernel
theorem dd_Wr_goBackTo_78 : decode cc_Wr_goBackTo 78 = .ok (.ifCond .lt 24, 3) := by decide +kernel
theorem dd_Wr_goBackTo_81 : decode cc_Wr_goBackTo 81 = .ok (.aload_n 0, 1) := by decide +kernel
theorem dd_Wr_goBackTo_82 : decode cc_Wr_goBackTo 82 = .ok (.getfield 9, 3) := by decide +kernel
theorem dd_Wr_goBackTo_85 : decode cc_Wr_goBackTo 85 = .ok (.iload_n 3, 1) := by decide +kernel
theorem dd_Wr_goBackTo_86 : decode cc_Wr_goBackTo 86 = .ok (.iload_n 2, 1) := by decide +kernel
theorem dd_Wr_goBackTo_87 : decode cc_Wr_goBackTo 87 = .ok (.bipush 10, 2) := by decide +kernel
theorem dd_Wr_goBackTo_89 : decode cc_Wr_goBackTo 89 = .ok (.irem, 1) := by decide +kernel
theorem dd_Wr_goBackTo_90 : decode cc_Wr_goBackTo 90 = .ok (.iastore, 1) := by decide +kernel
theorem dd_Wr_goBackTo_91 : decode cc_Wr_goBackTo 91 = .ok (.iload_n 2, 1) := by decide +kernel
theorem dd_Wr_goBackTo_92 : decode cc_Wr_goBackTo 92 = .ok (.bipush 10, 2) := by decide +kernel
theorem dd_Wr_goBackTo_94 : decode cc_Wr_goBackTo 94 = .ok (.idiv, 1) := by decide +kernel
theorem dd_Wr_goBackTo_95 : decode cc_Wr_goBackTo 95 = .ok (.istore_n 2, 1) := by decide +kernel
theorem dd_Wr_goBackTo_96 : decode cc_Wr_goBackTo 96 = .ok (.iinc 3 (-1), 3) := by decide +kernel
theorem dd_Wr_goBackTo_99 : decode cc_Wr_goBackTo 99 = .ok (.goto (-22), 3) := by decide +kernel
theorem dd_Wr_goBackTo_102 : decode cc_Wr_goBackTo 102 = .ok (.return_, 1) := by decide +kernel
set_option maxRecDepth 100000 in
set_option maxHeartbeats 4000000 in
theorem ct_Wr_goBackTo (l : Launch) (E : gf_E) (w : Int) (μ : gf_M) (hw : gf_oWr w) (n : Int) (f : Int → Int) (L : Nat) (hn : 0 ≤ n ∧ n < μ w 2) (hd : μ w 2 ≤ 40) (hL : L ≤ 8) (hf : ∀ j : Int, 0 ≤ j → j < L → 0 ≤ f j ∧ f j ≤ 9) (he : μ (w + 2) n = pf_enc f L) : gf_Mv l E yy_Wr_goBackTo cc_Wr_goBackTo 4 (gf_rm 0 0) 81 gf_ref 0 0 81 gf_ref μ [.ref (gf_ad E w), .int (gf_i n)] (fun μ' => μ' w 1 = L ∧ μ' w 2 = n ∧ (∀ j : Int, 0 ≤ j → j < L → μ' (w + 1) j = f j) ∧ ∀ a b : Int, ¬ (a = w ∧ (b = 1 ∨ b = 2)) → a ≠ w + 1 → μ' a b = μ a b) := by
  refine gf_mv (by decide +kernel) (Nat.le_of_ble_eq_true rfl) (by decide) (fun X Q hlx C hname hQ => ?_)
  subst hlx
  replace C : gf_C X E cc_Wr_goBackTo 4 "GuardFigures$Writing" (gf_rm 0 0) := C
  show gf_G X E Q 4 gf_φ μ 0 [(0, .ref (gf_ad E w)), (1, .int (gf_i n))] []
  have hEL := pf_enc_8 hL hf
  refine gf_iload_n C dd_Wr_goBackTo_0 1 rfl ?_
  refine gf_if_lt 12 C dd_Wr_goBackTo_1 (by decide) (by omega) (fun h1 => ?_) (fun h1 => ?_)
  · skip
    refine gf_vret C hQ dd_Wr_goBackTo_12 ?_
    omega
  · skip
    refine gf_iload_n C dd_Wr_goBackTo_4 1 rfl ?_
    refine gf_aload_n C dd_Wr_goBackTo_5 0 rfl ?_
    refine gf_getI (z := 2) C gf_cl5 fl_Wr_22 dd_Wr_goBackTo_6 rfl rfl hw.1 (fun hv6 => ?_)
    refine gf_icmp_lt 13 C dd_Wr_goBackTo_9 (by decide) (by omega) (by omega) (fun h9 => ?_) (fun h9 => ?_)
    · skip
      refine gf_aload_n C dd_Wr_goBackTo_13 0 rfl ?_
      refine gf_iload_n C dd_Wr_goBackTo_14 1 rfl ?_
      refine gf_putI (z := 2) C gf_cl5 fl_Wr_22 dd_Wr_goBackTo_15 rfl rfl rfl (by decide +kernel) hw.1 (by omega) ?_
      refine gf_nmM (fun m15 hm15 => ?_)
      refine gf_aload_n C dd_Wr_goBackTo_18 0 rfl ?_
      refine gf_iconst C dd_Wr_goBackTo_19 ?_
      refine gf_putI (z := 1) C gf_cl5 fl_Wr_18 dd_Wr_goBackTo_20 rfl rfl rfl (by decide +kernel) hw.1 (by omega) ?_
      refine gf_nmM (fun m20 hm20 => ?_)
      have e20 : ∀ a b : Int, ¬ (a = w ∧ (b = 1 ∨ b = 2)) → m20 a b = μ a b := fun a b h => by
        rw [hm20, hm15]; by_cases ha : a = w
        · rw [gf_up_j (by omega), gf_up_j (by omega)]
        · rw [gf_up_k ha, gf_up_k ha]
      have e201 : m20 w 1 = 0 := by rw [hm20]; exact gf_up_s
      have e202 : m20 w 2 = n := by rw [hm20, gf_up_j (by decide), hm15]; exact gf_up_s
      refine gf_aload_n C dd_Wr_goBackTo_23 0 rfl ?_
      refine gf_getA (r := (w + 2)) C gf_cl5 fl_Wr_15 dd_Wr_goBackTo_24 rfl hw.1 hw.2.2.2.1 (hw.2.2.2.2).1 ?_
      refine gf_iload_n C dd_Wr_goBackTo_27 1 rfl ?_
      refine gf_iald C dd_Wr_goBackTo_28 hw.2.2.2.2 (by omega) (fun hv28 => ?_)
      have e28 : m20 (w + 2) n = pf_enc f L := by rw [e20 _ _ (by omega)]; exact he
      refine gf_nm (fun x29 hx29 => ?_)
      refine gf_istore_n (lv' := [(2, .int (gf_i x29)), (0, .ref (gf_ad E w)), (1, .int (gf_i n))]) C dd_Wr_goBackTo_29 (by decide) rfl ?_
      have L30_1 : ∀ (N : Nat) (q : Int) (m : gf_M) , (∃ c : Nat, c ≤ L ∧ q = pf_enc f (L - c) ∧ m w 1 = c ∧ m w 2 = n ∧ ∀ a b : Int, ¬ (a = w ∧ (b = 1 ∨ b = 2)) → m a b = μ a b) → (200000000 - m w 1 * 20).toNat < N → gf_G X E Q 4 gf_φ m 30 [(2, .int (gf_i q)), (0, .ref (gf_ad E w)), (1, .int (gf_i n))] [] := by
        intro N
        induction N with
        | zero => intro q m hinv hN; exact absurd hN (Nat.not_lt_zero _)
        | succ N ih30_1 =>
          intro q m hinv hN
          have hinv0 := hinv
          obtain ⟨c, hc, hq, h1m, h2m, hfm⟩ := hinv
          have hqB := pf_enc_8 (f := f) (n := L - c) (by omega) (fun j h0 h1 => hf j h0 (by omega))
          refine gf_iload_n C dd_Wr_goBackTo_30 0 rfl ?_
          refine gf_bipush C dd_Wr_goBackTo_31 (by decide +kernel) ?_
          refine gf_icmp_lt 63 C dd_Wr_goBackTo_33 (by decide) (by omega) (by omega) (fun h33 => ?_) (fun h33 => ?_)
          · skip
            have hcL : c = L := by
              by_cases hz : L - c = 0
              · omega
              · exfalso
                have hE := pf_enc_1 (f := f) (n := L - c - 1) (fun j h0 h1 => hf j h0 (by omega))
                rw [show L - c - 1 + 1 = L - c by omega] at hE
                omega
            refine gf_aload_n C dd_Wr_goBackTo_63 1 rfl ?_
            refine gf_getA (r := (w + 2)) C gf_cl5 fl_Wr_15 dd_Wr_goBackTo_64 rfl hw.1 hw.2.2.2.1 (hw.2.2.2.2).1 ?_
            refine gf_iload_n C dd_Wr_goBackTo_67 2 rfl ?_
            refine gf_iald C dd_Wr_goBackTo_68 hw.2.2.2.2 (by omega) (fun hv68 => ?_)
            refine gf_nm (fun x69 hx69 => ?_)
            refine gf_istore_n (lv' := [(2, .int (gf_i x69)), (0, .ref (gf_ad E w)), (1, .int (gf_i n))]) C dd_Wr_goBackTo_69 (by decide) rfl ?_
            refine gf_aload_n C dd_Wr_goBackTo_70 1 rfl ?_
            refine gf_getI (z := 1) C gf_cl5 fl_Wr_18 dd_Wr_goBackTo_71 rfl rfl hw.1 (fun hv71 => ?_)
            refine gf_iconst C dd_Wr_goBackTo_74 ?_
            refine gf_isub C dd_Wr_goBackTo_75 ?_
            refine gf_nm (fun x76 hx76 => ?_)
            refine gf_istore_n (lv' := [(3, .int (gf_i x76)), (2, .int (gf_i x69)), (0, .ref (gf_ad E w)), (1, .int (gf_i n))]) C dd_Wr_goBackTo_76 (by decide) rfl ?_
            have L77_2 : ∀ (N : Nat) (q k : Int) (m : gf_M) , (∃ c : Nat, c ≤ L ∧ k = (c : Int) - 1 ∧ q = pf_enc f c ∧ m w 1 = L ∧ m w 2 = n ∧ (∀ j : Int, (c : Int) ≤ j → j < L → m (w + 1) j = f j) ∧ ∀ a b : Int, ¬ (a = w ∧ (b = 1 ∨ b = 2)) → a ≠ w + 1 → m a b = μ a b) → (k + 1).toNat < N → gf_G X E Q 4 gf_φ m 77 [(2, .int (gf_i q)), (3, .int (gf_i k)), (0, .ref (gf_ad E w)), (1, .int (gf_i n))] [] := by
              intro N
              induction N with
              | zero => intro q k m hinv hN; exact absurd hN (Nat.not_lt_zero _)
              | succ N ih77_2 =>
                intro q k m hinv hN
                have hinv0 := hinv
                obtain ⟨c2, hc2, hk2, hq2, h12, h22, hj2, hf2⟩ := hinv
                have hqB2 := pf_enc_8 (f := f) (n := c2) (by omega) (fun j h0 h1 => hf j h0 (by omega))
                refine gf_iload_n C dd_Wr_goBackTo_77 1 rfl ?_
                refine gf_if_lt 102 C dd_Wr_goBackTo_78 (by decide) (by omega) (fun h78 => ?_) (fun h78 => ?_)
                · skip
                  refine gf_vret C hQ dd_Wr_goBackTo_102 ?_
                  exact ⟨h12, h22, fun j h0 h1 => hj2 j (by omega) h1, hf2⟩
                · skip
                  refine gf_aload_n C dd_Wr_goBackTo_81 2 rfl ?_
                  refine gf_getA (r := (w + 1)) C gf_cl5 fl_Wr_9 dd_Wr_goBackTo_82 rfl hw.1 hw.2.1 (hw.2.2.1).1 ?_
                  refine gf_iload_n C dd_Wr_goBackTo_85 1 rfl ?_
                  refine gf_iload_n C dd_Wr_goBackTo_86 0 rfl ?_
                  refine gf_bipush C dd_Wr_goBackTo_87 (by decide +kernel) ?_
                  refine gf_irem C dd_Wr_goBackTo_89 (by omega) ?_
                  refine gf_iast C dd_Wr_goBackTo_90 hw.2.2.1 (by omega) (by omega) ?_
                  refine gf_nmM (fun m90 hm90 => ?_)
                  refine gf_iload_n C dd_Wr_goBackTo_91 0 rfl ?_
                  refine gf_bipush C dd_Wr_goBackTo_92 (by decide +kernel) ?_
                  refine gf_idiv C dd_Wr_goBackTo_94 (by omega) ?_
                  refine gf_nm (fun x95 hx95 => ?_)
                  refine gf_istore_n (lv' := [(2, .int (gf_i x95)), (3, .int (gf_i k)), (0, .ref (gf_ad E w)), (1, .int (gf_i n))]) C dd_Wr_goBackTo_95 (by decide) rfl ?_
                  obtain ⟨x96, hx96⟩ : ∃ y : Int, y = k + (-1) := ⟨_, rfl⟩
                  refine gf_iinc (q := 1) (v := x96) (lv' := [(3, .int (gf_i x96)), (2, .int (gf_i x95)), (0, .ref (gf_ad E w)), (1, .int (gf_i n))]) C dd_Wr_goBackTo_96 rfl hx96 (by decide) rfl ?_
                  refine gf_goto 77 C dd_Wr_goBackTo_99 (by decide) ?_
                  refine gf_lsub [1, 0, 2, 3] rfl ?_
                  exact ih77_2 x95 x96 m90 (by
                          obtain ⟨c3, rfl⟩ : ∃ c3, c2 = c3 + 1 := ⟨c2 - 1, by omega⟩
                          have hE := pf_enc_1 (f := f) (n := c3) (fun j h0 h1 => hf j h0 (by omega))
                          refine ⟨c3, by omega, by omega, by rw [hx95, hq2]; exact hE.2.1, by rw [hm90, gf_up_k (by omega)]; exact h12, by rw [hm90, gf_up_k (by omega)]; exact h22, fun j h0 h1 => ?_, fun a b h h' => by rw [hm90, gf_up_k h']; exact hf2 a b h h'⟩
                          rw [hm90]
                          by_cases hj : j = k
                          · rw [hj, gf_up_s, hq2, hE.2.2]
                            congr 1
                            omega
                          · rw [gf_up_j hj]
                            exact hj2 j (by omega) h1) (by omega)
            refine gf_lsub [1, 0, 2, 3] rfl ?_
            exact L77_2 _ x69 x76 m (⟨L, by omega, by omega, by rw [hx69]; exact (hfm _ _ (by omega)).trans he, by omega, h2m, fun j h0 h1 => by omega, fun a b h _ => hfm a b h⟩) (Nat.lt_succ_self _)
          · skip
            refine gf_aload_n C dd_Wr_goBackTo_36 1 rfl ?_
            refine gf_getI (z := 1) C gf_cl5 fl_Wr_18 dd_Wr_goBackTo_37 rfl rfl hw.1 (fun hv37 => ?_)
            refine gf_bipush C dd_Wr_goBackTo_40 (by decide +kernel) ?_
            refine gf_icmp_ge 63 C dd_Wr_goBackTo_42 (by decide) (by omega) (by omega) (fun h42 => ?_) (fun h42 => ?_)
            · skip
              have hcL : c = L := by
                by_cases hz : L - c = 0
                · omega
                · exfalso
                  have hE := pf_enc_1 (f := f) (n := L - c - 1) (fun j h0 h1 => hf j h0 (by omega))
                  rw [show L - c - 1 + 1 = L - c by omega] at hE
                  omega
              refine gf_aload_n C dd_Wr_goBackTo_63 1 rfl ?_
              refine gf_getA (r := (w + 2)) C gf_cl5 fl_Wr_15 dd_Wr_goBackTo_64 rfl hw.1 hw.2.2.2.1 (hw.2.2.2.2).1 ?_
              refine gf_iload_n C dd_Wr_goBackTo_67 2 rfl ?_
              refine gf_iald C dd_Wr_goBackTo_68 hw.2.2.2.2 (by omega) (fun hv68 => ?_)
              refine gf_nm (fun x69 hx69 => ?_)
              refine gf_istore_n (lv' := [(2, .int (gf_i x69)), (0, .ref (gf_ad E w)), (1, .int (gf_i n))]) C dd_Wr_goBackTo_69 (by decide) rfl ?_
              refine gf_aload_n C dd_Wr_goBackTo_70 1 rfl ?_
              refine gf_getI (z := 1) C gf_cl5 fl_Wr_18 dd_Wr_goBackTo_71 rfl rfl hw.1 (fun hv71 => ?_)
              refine gf_iconst C dd_Wr_goBackTo_74 ?_
              refine gf_isub C dd_Wr_goBackTo_75 ?_
              refine gf_nm (fun x76 hx76 => ?_)
              refine gf_istore_n (lv' := [(3, .int (gf_i x76)), (2, .int (gf_i x69)), (0, .ref (gf_ad E w)), (1, .int (gf_i n))]) C dd_Wr_goBackTo_76 (by decide) rfl ?_
              have L77_3 : ∀ (N : Nat) (q k : Int) (m : gf_M) , (∃ c : Nat, c ≤ L ∧ k = (c : Int) - 1 ∧ q = pf_enc f c ∧ m w 1 = L ∧ m w 2 = n ∧ (∀ j : Int, (c : Int) ≤ j → j < L → m (w + 1) j = f j) ∧ ∀ a b : Int, ¬ (a = w ∧ (b = 1 ∨ b = 2)) → a ≠ w + 1 → m a b = μ a b) → (k + 1).toNat < N → gf_G X E Q 4 gf_φ m 77 [(2, .int (gf_i q)), (3, .int (gf_i k)), (0, .ref (gf_ad E w)), (1, .int (gf_i n))] [] := by
                intro N
                induction N with
                | zero => intro q k m hinv hN; exact absurd hN (Nat.not_lt_zero _)
                | succ N ih77_3 =>
                  intro q k m hinv hN
                  have hinv0 := hinv
                  obtain ⟨c2, hc2, hk2, hq2, h12, h22, hj2, hf2⟩ := hinv
                  have hqB2 := pf_enc_8 (f := f) (n := c2) (by omega) (fun j h0 h1 => hf j h0 (by omega))
                  refine gf_iload_n C dd_Wr_goBackTo_77 1 rfl ?_
                  refine gf_if_lt 102 C dd_Wr_goBackTo_78 (by decide) (by omega) (fun h78 => ?_) (fun h78 => ?_)
                  · skip
                    refine gf_vret C hQ dd_Wr_goBackTo_102 ?_
                    exact ⟨h12, h22, fun j h0 h1 => hj2 j (by omega) h1, hf2⟩
                  · skip
                    refine gf_aload_n C dd_Wr_goBackTo_81 2 rfl ?_
                    refine gf_getA (r := (w + 1)) C gf_cl5 fl_Wr_9 dd_Wr_goBackTo_82 rfl hw.1 hw.2.1 (hw.2.2.1).1 ?_
                    refine gf_iload_n C dd_Wr_goBackTo_85 1 rfl ?_
                    refine gf_iload_n C dd_Wr_goBackTo_86 0 rfl ?_
                    refine gf_bipush C dd_Wr_goBackTo_87 (by decide +kernel) ?_
                    refine gf_irem C dd_Wr_goBackTo_89 (by omega) ?_
                    refine gf_iast C dd_Wr_goBackTo_90 hw.2.2.1 (by omega) (by omega) ?_
                    refine gf_nmM (fun m90 hm90 => ?_)
                    refine gf_iload_n C dd_Wr_goBackTo_91 0 rfl ?_
                    refine gf_bipush C dd_Wr_goBackTo_92 (by decide +kernel) ?_
                    refine gf_idiv C dd_Wr_goBackTo_94 (by omega) ?_
                    refine gf_nm (fun x95 hx95 => ?_)
                    refine gf_istore_n (lv' := [(2, .int (gf_i x95)), (3, .int (gf_i k)), (0, .ref (gf_ad E w)), (1, .int (gf_i n))]) C dd_Wr_goBackTo_95 (by decide) rfl ?_
                    obtain ⟨x96, hx96⟩ : ∃ y : Int, y = k + (-1) := ⟨_, rfl⟩
                    refine gf_iinc (q := 1) (v := x96) (lv' := [(3, .int (gf_i x96)), (2, .int (gf_i x95)), (0, .ref (gf_ad E w)), (1, .int (gf_i n))]) C dd_Wr_goBackTo_96 rfl hx96 (by decide) rfl ?_
                    refine gf_goto 77 C dd_Wr_goBackTo_99 (by decide) ?_
                    refine gf_lsub [1, 0, 2, 3] rfl ?_
                    exact ih77_3 x95 x96 m90 (by
                            obtain ⟨c3, rfl⟩ : ∃ c3, c2 = c3 + 1 := ⟨c2 - 1, by omega⟩
                            have hE := pf_enc_1 (f := f) (n := c3) (fun j h0 h1 => hf j h0 (by omega))
                            refine ⟨c3, by omega, by omega, by rw [hx95, hq2]; exact hE.2.1, by rw [hm90, gf_up_k (by omega)]; exact h12, by rw [hm90, gf_up_k (by omega)]; exact h22, fun j h0 h1 => ?_, fun a b h h' => by rw [hm90, gf_up_k h']; exact hf2 a b h h'⟩
                            rw [hm90]
                            by_cases hj : j = k
                            · rw [hj, gf_up_s, hq2, hE.2.2]
                              congr 1
                              omega
                            · rw [gf_up_j hj]
                              exact hj2 j (by omega) h1) (by omega)
              refine gf_lsub [1, 0, 2, 3] rfl ?_
              exact L77_3 _ x69 x76 m (⟨L, by omega, by omega, by rw [hx69]; exact (hfm _ _ (by omega)).trans he, by omega, h2m, fun j h0 h1 => by omega, fun a b h _ => hfm a b h⟩) (Nat.lt_succ_self _)
            · skip
              refine gf_aload_n C dd_Wr_goBackTo_45 1 rfl ?_
              refine gf_dup C dd_Wr_goBackTo_46 rfl ?_
              refine gf_getI (z := 1) C gf_cl5 fl_Wr_18 dd_Wr_goBackTo_47 rfl rfl hw.1 (fun hv47 => ?_)
              refine gf_iconst C dd_Wr_goBackTo_50 ?_
              refine gf_iadd C dd_Wr_goBackTo_51 ?_
              refine gf_putI (z := 1) C gf_cl5 fl_Wr_18 dd_Wr_goBackTo_52 rfl rfl rfl (by decide +kernel) hw.1 (by omega) ?_
              refine gf_nmM (fun m52 hm52 => ?_)
              refine gf_iload_n C dd_Wr_goBackTo_55 0 rfl ?_
              refine gf_bipush C dd_Wr_goBackTo_56 (by decide +kernel) ?_
              refine gf_idiv C dd_Wr_goBackTo_58 (by omega) ?_
              refine gf_nm (fun x59 hx59 => ?_)
              refine gf_istore_n (lv' := [(2, .int (gf_i x59)), (0, .ref (gf_ad E w)), (1, .int (gf_i n))]) C dd_Wr_goBackTo_59 (by decide) rfl ?_
              refine gf_goto 30 C dd_Wr_goBackTo_60 (by decide) ?_
              refine gf_lsub [0, 1, 2] rfl ?_
              exact ih30_1 x59 m52 (by
                      have hcL : c < L := by
                        rcases Nat.lt_or_ge c L with z | z
                        · exact z
                        · have e0 : q = 1 := by rw [hq, show L - c = 0 by omega]; rfl
                          omega
                      refine ⟨c + 1, by omega, ?_, by rw [hm52, gf_up_s]; omega, by rw [hm52, gf_up_j (by decide)]; exact h2m, fun a b h => ?_⟩
                      · rw [hx59, hq, show L - c = (L - (c + 1)) + 1 by omega]
                        exact (pf_enc_1 (fun j h0 h1 => hf j h0 (by omega))).2.1
                      · rw [hm52, ← hfm a b h]
                        by_cases ha : a = w
                        · exact gf_up_j (by omega)
                        · exact gf_up_k ha) (by rw [hm52, gf_up_s]; omega)
      refine gf_lsub [0, 1, 2] rfl ?_
      exact L30_1 _ x29 m20 (⟨0, by omega, by rw [hx29, e28]; rfl, e201, e202, e20⟩) (Nat.lt_succ_self _)
    · skip
      refine gf_vret C hQ dd_Wr_goBackTo_12 ?_
      omega
end
section
/-! Reader -/
def pf_pk (c : Int) : Int := if c = 103 then 0 else if c = 101 then 1 else if c = 99 then 2 else if c = 104 then 3 else if c = 98 then 4 else if c = 100 then 5 else -9
theorem pf_pk_R (c : Int) : pf_pk c = -9 ∨ (0 ≤ pf_pk c ∧ pf_pk c ≤ 5) := by
  unfold pf_pk
  repeat' split
  all_goals omega
theorem pf_lets {x : Int} (h : 0 ≤ x ∧ x < 6) : gf_R (([103, 101, 99, 104, 98, 100] : List Int).getD x.toNat 0) := by
  have : x = 0 ∨ x = 1 ∨ x = 2 ∨ x = 3 ∨ x = 4 ∨ x = 5 := by omega
  rcases this with rfl | rfl | rfl | rfl | rfl | rfl <;> decide
theorem pf_pk_of {x : Int} (h : 0 ≤ x ∧ x < 6) : pf_pk (([103, 101, 99, 104, 98, 100] : List Int).getD x.toNat 0) = x := by
  have : x = 0 ∨ x = 1 ∨ x = 2 ∨ x = 3 ∨ x = 4 ∨ x = 5 := by omega
  rcases this with rfl | rfl | rfl | rfl | rfl | rfl <;> decide
theorem pf_pk_let {c : Int} (h : 0 ≤ pf_pk c) : ([103, 101, 99, 104, 98, 100] : List Int).getD (pf_pk c).toNat 0 = c := by
  unfold pf_pk at h ⊢
  repeat' split
  all_goals first | (subst_vars; decide) | (simp_all)
/-- reading one guard at place p, c are there: the fault, or -9 -/
def pf_rg (f : Int → Int) (n p c : Int) : Int :=
  if pf_pk (f p) = -9 ∨ 7 ≤ c then p
  else if n ≤ p + 1 then n
  else if ¬ (48 ≤ f (p + 1) ∧ f (p + 1) ≤ 57) then p + 1
  else if n ≤ p + 2 then n
  else if ¬ (48 ≤ f (p + 2) ∧ f (p + 2) ≤ 57) then p + 2
  else -9
/-- reading on: the fault or -9, and the guards -/
def pf_pr (f : Int → Int) (n : Int) : Nat → Int → List (Int × Int × Int) → Int × List (Int × Int × Int)
  | 0, _, a => (if (a.length : Int) < 2 then n else -9, a)
  | k + 1, p, a =>
    if n ≤ p then (if (a.length : Int) < 2 then n else -9, a)
    else if f p = 32 then pf_pr f n k (p + 1) a
    else if pf_rg f n p a.length = -9 then pf_pr f n k (p + 3) (a ++ [(pf_pk (f p), f (p + 1) - 48, f (p + 2) - 48)])
    else (pf_rg f n p a.length, a)
/-- a row of cells holds the guards of a list -/
def gf_hold (μ : gf_M) (b : Int) (a : List (Int × Int × Int)) : Prop := ∀ (i : Nat) (q : Int × Int × Int), a[i]? = some q → μ (b + i) 0 = q.1 ∧ μ (b + i) 1 = q.2.1 ∧ μ (b + i) 2 = q.2.2
theorem gf_hold_app {μ μ' : gf_M} {b : Int} {a : List (Int × Int × Int)} {q : Int × Int × Int} (h : gf_hold μ b a) (hm : ∀ (i : Nat) (j : Int), i < a.length → μ' (b + i) j = μ (b + i) j) (hq : μ' (b + a.length) 0 = q.1 ∧ μ' (b + a.length) 1 = q.2.1 ∧ μ' (b + a.length) 2 = q.2.2) : gf_hold μ' b (a ++ [q]) := by
  intro i r hr
  by_cases hi : i < a.length
  · rw [List.getElem?_append_left hi] at hr
    rw [hm i 0 hi, hm i 1 hi, hm i 2 hi]
    exact h i r hr
  · rw [List.getElem?_append_right (by omega)] at hr
    have hz : i - a.length < 1 := (List.getElem?_eq_some_iff.mp hr).1
    have : i = a.length := by omega
    subst this
    rw [Nat.sub_self] at hr
    cases hr
    exact hq
theorem dd_Re_kindOf_0 : decode cc_Re_kindOf 0 = .ok (.iconst 0, 1) := by decide +kernel
theorem dd_Re_kindOf_1 : decode cc_Re_kindOf 1 = .ok (.istore_n 1, 1) := by decide +kernel
theorem dd_Re_kindOf_2 : decode cc_Re_kindOf 2 = .ok (.iload_n 1, 1) := by decide +kernel
theorem dd_Re_kindOf_3 : decode cc_Re_kindOf 3 = .ok (.bipush 6, 2) := by decide +kernel
theorem dd_Re_kindOf_5 : decode cc_Re_kindOf 5 = .ok (.if_icmp .ge 20, 3) := by decide +kernel
theorem dd_Re_kindOf_8 : decode cc_Re_kindOf 8 = .ok (.getstatic 52, 3) := by decide +kernel
theorem dd_Re_kindOf_11 : decode cc_Re_kindOf 11 = .ok (.iload_n 1, 1) := by decide +kernel
theorem dd_Re_kindOf_12 : decode cc_Re_kindOf 12 = .ok (.iaload, 1) := by decide +kernel
theorem dd_Re_kindOf_13 : decode cc_Re_kindOf 13 = .ok (.iload_n 0, 1) := by decide +kernel
theorem dd_Re_kindOf_14 : decode cc_Re_kindOf 14 = .ok (.if_icmp .ne 5, 3) := by decide +kernel
theorem dd_Re_kindOf_17 : decode cc_Re_kindOf 17 = .ok (.iload_n 1, 1) := by decide +kernel
theorem dd_Re_kindOf_18 : decode cc_Re_kindOf 18 = .ok (.ireturn, 1) := by decide +kernel
theorem dd_Re_kindOf_19 : decode cc_Re_kindOf 19 = .ok (.iinc 1 1, 3) := by decide +kernel
theorem dd_Re_kindOf_22 : decode cc_Re_kindOf 22 = .ok (.goto (-20), 3) := by decide +kernel
theorem dd_Re_kindOf_25 : decode cc_Re_kindOf 25 = .ok (.bipush (-9), 2) := by decide +kernel
theorem dd_Re_kindOf_27 : decode cc_Re_kindOf 27 = .ok (.ireturn, 1) := by decide +kernel
set_option maxRecDepth 100000 in
set_option maxHeartbeats 4000000 in
theorem ct_Re_kindOf (l : Launch) (E : gf_E) (c : Int) (μ : gf_M) (hc : gf_R c) : gf_Mi l E yy_Re_kindOf cc_Re_kindOf 2 .int (gf_rm 0 0) 81 gf_ref μ [.int (gf_i c)] (fun r μ' => r = pf_pk c ∧ μ' = μ) := by
  refine gf_mi (by decide +kernel) (Nat.le_of_ble_eq_true rfl) (by decide) (fun X Q hlx C hQ => ?_)
  subst hlx
  replace C : gf_C X E cc_Re_kindOf 2 "GuardFigures$Reader" (gf_rm 0 0) := C
  show gf_G X E Q 2 gf_φ μ 0 [(0, .int (gf_i c))] []
  have hpR := pf_pk_R c
  refine gf_iconst C dd_Re_kindOf_0 ?_
  refine gf_istore_n (lv' := [(1, .int (gf_i 0)), (0, .int (gf_i c))]) C dd_Re_kindOf_1 (by decide) rfl ?_
  have L2_1 : ∀ (N : Nat) (i : Int) , (0 ≤ i ∧ i ≤ 6 ∧ (pf_pk c = -9 ∨ i ≤ pf_pk c)) → (6 - i).toNat < N → gf_G X E Q 2 gf_φ μ 2 [(1, .int (gf_i i)), (0, .int (gf_i c))] [] := by
    intro N
    induction N with
    | zero => intro i hinv hN; exact absurd hN (Nat.not_lt_zero _)
    | succ N ih2_1 =>
      intro i hinv hN
      have hinv0 := hinv
      obtain ⟨hi0, hi1, hi2⟩ := hinv
      refine gf_iload_n C dd_Re_kindOf_2 0 rfl ?_
      refine gf_bipush C dd_Re_kindOf_3 (by decide +kernel) ?_
      refine gf_icmp_ge 25 C dd_Re_kindOf_5 (by decide) (by omega) (by omega) (fun h5 => ?_) (fun h5 => ?_)
      · skip
        refine gf_bipush C dd_Re_kindOf_25 (by decide +kernel) ?_
        refine gf_iret C hQ dd_Re_kindOf_27 (by omega) ?_
        exact ⟨by omega, rfl⟩
      · skip
        refine gf_getsL C dd_Re_kindOf_8 ?_
        refine gf_iload_n C dd_Re_kindOf_11 0 rfl ?_
        have hle := pf_lets (x := i) (by omega)
        refine gf_tldL C dd_Re_kindOf_12 (by omega) ?_
        refine gf_iload_n C dd_Re_kindOf_13 1 rfl ?_
        refine gf_icmp_ne 19 C dd_Re_kindOf_14 (by decide) (by omega) (by omega) (fun h14 => ?_) (fun h14 => ?_)
        · skip
          obtain ⟨x19, hx19⟩ : ∃ y : Int, y = i + 1 := ⟨_, rfl⟩
          refine gf_iinc (q := 0) (v := x19) (lv' := [(1, .int (gf_i x19)), (0, .int (gf_i c))]) C dd_Re_kindOf_19 rfl hx19 (by decide) rfl ?_
          refine gf_goto 2 C dd_Re_kindOf_22 (by decide) ?_
          refine gf_lsub [0, 1] rfl ?_
          exact ih2_1 x19 (by
                  refine ⟨by omega, by omega, ?_⟩
                  have hne : pf_pk c ≠ i := fun e => h14 (by have := pf_pk_let (c := c) (by omega); rw [e] at this; exact this)
                  omega) (by omega)
        · skip
          refine gf_iload_n C dd_Re_kindOf_17 0 rfl ?_
          refine gf_iret C hQ dd_Re_kindOf_18 (by omega) ?_
          refine ⟨?_, rfl⟩
          rw [← h14]
          exact (pf_pk_of (by omega)).symm
  refine gf_lsub [0, 1] rfl ?_
  exact L2_1 _ 0 (by omega) (Nat.lt_succ_self _)

theorem dd_Re_readGuard_0 : decode cc_Re_readGuard 0 = .ok (.aload_n 1, 1) := by decide +kernel
theorem dd_Re_readGuard_1 : decode cc_Re_readGuard 1 = .ok (.getfield 27, 3) := by decide +kernel
theorem dd_Re_readGuard_4 : decode cc_Re_readGuard 4 = .ok (.iload_n 2, 1) := by decide +kernel
theorem dd_Re_readGuard_5 : decode cc_Re_readGuard 5 = .ok (.iaload, 1) := by decide +kernel
theorem dd_Re_readGuard_6 : decode cc_Re_readGuard 6 = .ok (.invokestatic 35, 3) := by decide +kernel
theorem dd_Re_readGuard_9 : decode cc_Re_readGuard 9 = .ok (.istore_n 3, 1) := by decide +kernel
theorem dd_Re_readGuard_10 : decode cc_Re_readGuard 10 = .ok (.iload_n 3, 1) := by decide +kernel
theorem dd_Re_readGuard_11 : decode cc_Re_readGuard 11 = .ok (.bipush (-9), 2) := by decide +kernel
theorem dd_Re_readGuard_13 : decode cc_Re_readGuard 13 = .ok (.if_icmp .eq 12, 3) := by decide +kernel
theorem dd_Re_readGuard_16 : decode cc_Re_readGuard 16 = .ok (.aload_n 0, 1) := by decide +kernel
theorem dd_Re_readGuard_17 : decode cc_Re_readGuard 17 = .ok (.getfield 18, 3) := by decide +kernel
theorem dd_Re_readGuard_20 : decode cc_Re_readGuard 20 = .ok (.bipush 7, 2) := by decide +kernel
theorem dd_Re_readGuard_22 : decode cc_Re_readGuard 22 = .ok (.if_icmp .lt 5, 3) := by decide +kernel
theorem dd_Re_readGuard_25 : decode cc_Re_readGuard 25 = .ok (.iload_n 2, 1) := by decide +kernel
theorem dd_Re_readGuard_26 : decode cc_Re_readGuard 26 = .ok (.ireturn, 1) := by decide +kernel
theorem dd_Re_readGuard_27 : decode cc_Re_readGuard 27 = .ok (.iload_n 2, 1) := by decide +kernel
theorem dd_Re_readGuard_28 : decode cc_Re_readGuard 28 = .ok (.iconst 1, 1) := by decide +kernel
theorem dd_Re_readGuard_29 : decode cc_Re_readGuard 29 = .ok (.iadd, 1) := by decide +kernel
theorem dd_Re_readGuard_30 : decode cc_Re_readGuard 30 = .ok (.istore 4, 2) := by decide +kernel
theorem dd_Re_readGuard_32 : decode cc_Re_readGuard 32 = .ok (.iload 4, 2) := by decide +kernel
theorem dd_Re_readGuard_34 : decode cc_Re_readGuard 34 = .ok (.iload_n 2, 1) := by decide +kernel
theorem dd_Re_readGuard_35 : decode cc_Re_readGuard 35 = .ok (.iconst 2, 1) := by decide +kernel
theorem dd_Re_readGuard_36 : decode cc_Re_readGuard 36 = .ok (.iadd, 1) := by decide +kernel
theorem dd_Re_readGuard_37 : decode cc_Re_readGuard 37 = .ok (.if_icmp .gt 44, 3) := by decide +kernel
theorem dd_Re_readGuard_40 : decode cc_Re_readGuard 40 = .ok (.iload 4, 2) := by decide +kernel
theorem dd_Re_readGuard_42 : decode cc_Re_readGuard 42 = .ok (.aload_n 1, 1) := by decide +kernel
theorem dd_Re_readGuard_43 : decode cc_Re_readGuard 43 = .ok (.getfield 22, 3) := by decide +kernel
theorem dd_Re_readGuard_46 : decode cc_Re_readGuard 46 = .ok (.if_icmp .lt 8, 3) := by decide +kernel
theorem dd_Re_readGuard_49 : decode cc_Re_readGuard 49 = .ok (.aload_n 1, 1) := by decide +kernel
theorem dd_Re_readGuard_50 : decode cc_Re_readGuard 50 = .ok (.getfield 22, 3) := by decide +kernel
theorem dd_Re_readGuard_53 : decode cc_Re_readGuard 53 = .ok (.ireturn, 1) := by decide +kernel
theorem dd_Re_readGuard_54 : decode cc_Re_readGuard 54 = .ok (.aload_n 1, 1) := by decide +kernel
theorem dd_Re_readGuard_55 : decode cc_Re_readGuard 55 = .ok (.getfield 27, 3) := by decide +kernel
theorem dd_Re_readGuard_58 : decode cc_Re_readGuard 58 = .ok (.iload 4, 2) := by decide +kernel
theorem dd_Re_readGuard_60 : decode cc_Re_readGuard 60 = .ok (.iaload, 1) := by decide +kernel
theorem dd_Re_readGuard_61 : decode cc_Re_readGuard 61 = .ok (.bipush 48, 2) := by decide +kernel
theorem dd_Re_readGuard_63 : decode cc_Re_readGuard 63 = .ok (.isub, 1) := by decide +kernel
theorem dd_Re_readGuard_64 : decode cc_Re_readGuard 64 = .ok (.bipush 10, 2) := by decide +kernel
theorem dd_Re_readGuard_66 : decode cc_Re_readGuard 66 = .ok (.invokestatic 39, 3) := by decide +kernel
theorem dd_Re_readGuard_69 : decode cc_Re_readGuard 69 = .ok (.ifCond .ne 6, 3) := by decide +kernel
theorem dd_Re_readGuard_72 : decode cc_Re_readGuard 72 = .ok (.iload 4, 2) := by decide +kernel
theorem dd_Re_readGuard_74 : decode cc_Re_readGuard 74 = .ok (.ireturn, 1) := by decide +kernel
theorem dd_Re_readGuard_75 : decode cc_Re_readGuard 75 = .ok (.iinc 4 1, 3) := by decide +kernel
theorem dd_Re_readGuard_78 : decode cc_Re_readGuard 78 = .ok (.goto (-46), 3) := by decide +kernel
theorem dd_Re_readGuard_81 : decode cc_Re_readGuard 81 = .ok (.aload_n 0, 1) := by decide +kernel
theorem dd_Re_readGuard_82 : decode cc_Re_readGuard 82 = .ok (.getfield 11, 3) := by decide +kernel
theorem dd_Re_readGuard_85 : decode cc_Re_readGuard 85 = .ok (.aload_n 0, 1) := by decide +kernel
theorem dd_Re_readGuard_86 : decode cc_Re_readGuard 86 = .ok (.getfield 18, 3) := by decide +kernel
theorem dd_Re_readGuard_89 : decode cc_Re_readGuard 89 = .ok (.aaload, 1) := by decide +kernel
theorem dd_Re_readGuard_90 : decode cc_Re_readGuard 90 = .ok (.astore 4, 2) := by decide +kernel
theorem dd_Re_readGuard_92 : decode cc_Re_readGuard 92 = .ok (.aload 4, 2) := by decide +kernel
theorem dd_Re_readGuard_94 : decode cc_Re_readGuard 94 = .ok (.iload_n 3, 1) := by decide +kernel
theorem dd_Re_readGuard_95 : decode cc_Re_readGuard 95 = .ok (.putfield 43, 3) := by decide +kernel
theorem dd_Re_readGuard_98 : decode cc_Re_readGuard 98 = .ok (.aload 4, 2) := by decide +kernel
theorem dd_Re_readGuard_100 : decode cc_Re_readGuard 100 = .ok (.aload_n 1, 1) := by decide +kernel
theorem dd_Re_readGuard_101 : decode cc_Re_readGuard 101 = .ok (.getfield 27, 3) := by decide +kernel
theorem dd_Re_readGuard_104 : decode cc_Re_readGuard 104 = .ok (.iload_n 2, 1) := by decide +kernel
theorem dd_Re_readGuard_105 : decode cc_Re_readGuard 105 = .ok (.iconst 1, 1) := by decide +kernel
theorem dd_Re_readGuard_106 : decode cc_Re_readGuard 106 = .ok (.iadd, 1) := by decide +kernel
theorem dd_Re_readGuard_107 : decode cc_Re_readGuard 107 = .ok (.iaload, 1) := by decide +kernel
theorem dd_Re_readGuard_108 : decode cc_Re_readGuard 108 = .ok (.bipush 48, 2) := by decide +kernel
theorem dd_Re_readGuard_110 : decode cc_Re_readGuard 110 = .ok (.isub, 1) := by decide +kernel
theorem dd_Re_readGuard_111 : decode cc_Re_readGuard 111 = .ok (.putfield 46, 3) := by decide +kernel
theorem dd_Re_readGuard_114 : decode cc_Re_readGuard 114 = .ok (.aload 4, 2) := by decide +kernel
theorem dd_Re_readGuard_116 : decode cc_Re_readGuard 116 = .ok (.aload_n 1, 1) := by decide +kernel
theorem dd_Re_readGuard_117 : decode cc_Re_readGuard 117 = .ok (.getfield 27, 3) := by decide +kernel
theorem dd_Re_readGuard_120 : decode cc_Re_readGuard 120 = .ok (.iload_n 2, 1) := by decide +kernel
theorem dd_Re_readGuard_121 : decode cc_Re_readGuard 121 = .ok (.iconst 2, 1) := by decide +kernel
theorem dd_Re_readGuard_122 : decode cc_Re_readGuard 122 = .ok (.iadd, 1) := by decide +kernel
theorem dd_Re_readGuard_123 : decode cc_Re_readGuard 123 = .ok (.iaload, 1) := by decide +kernel
theorem dd_Re_readGuard_124 : decode cc_Re_readGuard 124 = .ok (.bipush 48, 2) := by decide +kernel
theorem dd_Re_readGuard_126 : decode cc_Re_readGuard 126 = .ok (.isub, 1) := by decide +kernel
theorem dd_Re_readGuard_127 : decode cc_Re_readGuard 127 = .ok (.putfield 49, 3) := by decide +kernel
theorem dd_Re_readGuard_130 : decode cc_Re_readGuard 130 = .ok (.aload_n 0, 1) := by decide +kernel
theorem dd_Re_readGuard_131 : decode cc_Re_readGuard 131 = .ok (.dup, 1) := by decide +kernel
theorem dd_Re_readGuard_132 : decode cc_Re_readGuard 132 = .ok (.getfield 18, 3) := by decide +kernel
theorem dd_Re_readGuard_135 : decode cc_Re_readGuard 135 = .ok (.iconst 1, 1) := by decide +kernel
theorem dd_Re_readGuard_136 : decode cc_Re_readGuard 136 = .ok (.iadd, 1) := by decide +kernel
theorem dd_Re_readGuard_137 : decode cc_Re_readGuard 137 = .ok (.putfield 18, 3) := by decide +kernel
theorem dd_Re_readGuard_140 : decode cc_Re_readGuard 140 = .ok (.bipush (-9), 2) := by decide +kernel
theorem dd_Re_readGuard_142 : decode cc_Re_readGuard 142 = .ok (.ireturn, 1) := by decide +kernel
set_option maxRecDepth 100000 in
set_option maxHeartbeats 4000000 in
theorem ct_Re_readGuard (l : Launch) (E : gf_E) (k p : Int) (μ : gf_M) (hk : gf_oRow k 60) (hs : μ k 1 ≤ 60) (hp : 0 ≤ p ∧ p < μ k 1) (hc : 0 ≤ μ 44 1 ∧ μ 44 1 ≤ 7) (hk44 : k < 44) (hB : ∀ j : Int, 0 ≤ j → j < μ k 1 → -128 ≤ μ (k + 1) j ∧ μ (k + 1) j ≤ 127) : gf_Mi l E yy_Re_readGuard cc_Re_readGuard 5 .int (gf_rm 1 21) 81 gf_ref μ [.ref (gf_ad E 44), .ref (gf_ad E k), .int (gf_i p)] (fun r μ' => r = pf_rg (μ (k + 1)) (μ k 1) p (μ 44 1) ∧ (r ≠ -9 → μ' = μ) ∧ (r = -9 → μ' = gf_up (gf_up (gf_up (gf_up μ (46 + μ 44 1) 0 (pf_pk (μ (k + 1) p))) (46 + μ 44 1) 1 (μ (k + 1) (p + 1) - 48)) (46 + μ 44 1) 2 (μ (k + 1) (p + 2) - 48)) 44 1 (μ 44 1 + 1))) := by
  refine gf_mi (by decide +kernel) (Nat.le_of_ble_eq_true rfl) (by decide) (fun X Q hlx C hQ => ?_)
  subst hlx
  replace C : gf_C X E cc_Re_readGuard 5 "GuardFigures$Reader" (gf_rm 1 21) := C
  show gf_G X E Q 5 gf_φ μ 0 [(0, .ref (gf_ad E 44)), (1, .ref (gf_ad E k)), (2, .int (gf_i p))] []
  refine gf_aload_n C dd_Re_readGuard_0 1 rfl ?_
  refine gf_getA (r := (k + 1)) C gf_cl3 fl_Re_27 dd_Re_readGuard_1 rfl hk.1 hk.2.1 (hk.2.2).1 ?_
  refine gf_iload_n C dd_Re_readGuard_4 2 rfl ?_
  refine gf_iald C dd_Re_readGuard_5 hk.2.2 (by omega) (fun hv5 => ?_)
  refine gf_callSi (st := []) (As := [.int (gf_i (μ (k + 1) p))]) C wk_Re_35 (ct_Re_kindOf (gf_xl X) E (μ (k + 1) p) μ (by omega)) rfl ⟨rfl, rfl, rfl, rfl⟩ (Nat.le_of_ble_eq_true rfl) rfl dd_Re_readGuard_6 (fun r6 m6 hR6 hp6 => ?_)
  have hr6 := hp6.1
  refine gf_pm hp6.2 ?_
  have hpk := pf_pk_R (μ (k + 1) p)
  refine gf_istore_n (lv' := [(3, .int (gf_i r6)), (0, .ref (gf_ad E 44)), (1, .ref (gf_ad E k)), (2, .int (gf_i p))]) C dd_Re_readGuard_9 (by decide) rfl ?_
  refine gf_iload_n C dd_Re_readGuard_10 0 rfl ?_
  refine gf_bipush C dd_Re_readGuard_11 (by decide +kernel) ?_
  refine gf_icmp_eq 25 C dd_Re_readGuard_13 (by decide) (by omega) (by omega) (fun h13 => ?_) (fun h13 => ?_)
  · skip
    refine gf_iload_n C dd_Re_readGuard_25 3 rfl ?_
    refine gf_iret C hQ dd_Re_readGuard_26 (by omega) ?_
    refine ⟨?_, fun _ => rfl, fun h => by omega⟩
    unfold pf_rg
    rw [if_pos (by omega)]
  · skip
    refine gf_aload_n C dd_Re_readGuard_16 1 rfl ?_
    refine gf_getI (z := 1) C gf_cl2 fl_Re_18 dd_Re_readGuard_17 rfl rfl (show gf_is 81 44 0 2 2 by decide) (fun hv17 => ?_)
    refine gf_bipush C dd_Re_readGuard_20 (by decide +kernel) ?_
    refine gf_icmp_lt 27 C dd_Re_readGuard_22 (by decide) (by omega) (by omega) (fun h22 => ?_) (fun h22 => ?_)
    · skip
      refine gf_iload_n C dd_Re_readGuard_27 3 rfl ?_
      refine gf_iconst C dd_Re_readGuard_28 ?_
      refine gf_iadd C dd_Re_readGuard_29 ?_
      refine gf_nm (fun x30 hx30 => ?_)
      refine gf_istore (lv' := [(4, .int (gf_i x30)), (3, .int (gf_i r6)), (0, .ref (gf_ad E 44)), (1, .ref (gf_ad E k)), (2, .int (gf_i p))]) C dd_Re_readGuard_30 (by decide) rfl ?_
      have L32_1 : ∀ (N : Nat) (q : Int) , (p + 1 ≤ q ∧ q ≤ p + 3 ∧ (p + 1 < q → p + 1 < μ k 1 ∧ 48 ≤ μ (k + 1) (p + 1) ∧ μ (k + 1) (p + 1) ≤ 57) ∧ (p + 2 < q → p + 2 < μ k 1 ∧ 48 ≤ μ (k + 1) (p + 2) ∧ μ (k + 1) (p + 2) ≤ 57)) → (p + 3 - q).toNat < N → gf_G X E Q 5 gf_φ μ 32 [(4, .int (gf_i q)), (3, .int (gf_i r6)), (0, .ref (gf_ad E 44)), (1, .ref (gf_ad E k)), (2, .int (gf_i p))] [] := by
        intro N
        induction N with
        | zero => intro q hinv hN; exact absurd hN (Nat.not_lt_zero _)
        | succ N ih32_1 =>
          intro q hinv hN
          have hinv0 := hinv
          obtain ⟨hq0, hq1, hq2, hq3⟩ := hinv
          refine gf_iload C dd_Re_readGuard_32 0 rfl ?_
          refine gf_iload_n C dd_Re_readGuard_34 4 rfl ?_
          refine gf_iconst C dd_Re_readGuard_35 ?_
          refine gf_iadd C dd_Re_readGuard_36 ?_
          refine gf_icmp_gt 81 C dd_Re_readGuard_37 (by decide) (by omega) (by omega) (fun h37 => ?_) (fun h37 => ?_)
          · skip
            refine gf_aload_n C dd_Re_readGuard_81 2 rfl ?_
            refine gf_getA (r := 45) C gf_cl2 fl_Re_11 dd_Re_readGuard_82 rfl (show gf_is 81 44 0 2 2 by decide) (by decide) (by decide) ?_
            refine gf_aload_n C dd_Re_readGuard_85 2 rfl ?_
            refine gf_getI (z := 1) C gf_cl2 fl_Re_18 dd_Re_readGuard_86 rfl rfl (show gf_is 81 44 0 2 2 by decide) (fun hv86 => ?_)
            have ha89 := gf_rguard_of (r := (μ 44 1)) (by omega)
            refine gf_aald C dd_Re_readGuard_89 (show gf_is 81 45 4 4 7 by decide) (by decide) (by omega) ha89.1 (by omega) ?_
            refine gf_astore (lv' := [(4, .ref (gf_ad E (46 + (μ 44 1)))), (3, .int (gf_i r6)), (0, .ref (gf_ad E 44)), (1, .ref (gf_ad E k)), (2, .int (gf_i p))]) C dd_Re_readGuard_90 (by decide) rfl ?_
            have nk := hk.1.1
            refine gf_aload C dd_Re_readGuard_92 0 rfl ?_
            refine gf_iload_n C dd_Re_readGuard_94 1 rfl ?_
            refine gf_putI (z := 0) C gf_cl0 fl_Re_43 dd_Re_readGuard_95 rfl rfl rfl (by decide +kernel) ha89.2 (by omega) ?_
            refine gf_nmM (fun m95 hm95 => ?_)
            have e95 : ∀ b : Int, m95 (k + 1) b = μ (k + 1) b := fun b => by rw [hm95]; exact gf_up_k (by omega)
            have f1 := e95 (p + 1)
            refine gf_aload C dd_Re_readGuard_98 0 rfl ?_
            refine gf_aload_n C dd_Re_readGuard_100 3 rfl ?_
            refine gf_getA (r := (k + 1)) C gf_cl3 fl_Re_27 dd_Re_readGuard_101 rfl hk.1 hk.2.1 (hk.2.2).1 ?_
            refine gf_iload_n C dd_Re_readGuard_104 4 rfl ?_
            refine gf_iconst C dd_Re_readGuard_105 ?_
            refine gf_iadd C dd_Re_readGuard_106 ?_
            refine gf_iald C dd_Re_readGuard_107 hk.2.2 (by omega) (fun hv107 => ?_)
            refine gf_bipush C dd_Re_readGuard_108 (by decide +kernel) ?_
            refine gf_isub C dd_Re_readGuard_110 ?_
            refine gf_putI (z := 1) C gf_cl0 fl_Re_46 dd_Re_readGuard_111 rfl rfl rfl (by decide +kernel) ha89.2 (by omega) ?_
            refine gf_nmM (fun m111 hm111 => ?_)
            have e111 : ∀ b : Int, m111 (k + 1) b = μ (k + 1) b := fun b => by rw [hm111, gf_up_k (by omega)]; exact e95 b
            have f2 := e111 (p + 2)
            rw [f1] at hm111
            refine gf_aload C dd_Re_readGuard_114 0 rfl ?_
            refine gf_aload_n C dd_Re_readGuard_116 3 rfl ?_
            refine gf_getA (r := (k + 1)) C gf_cl3 fl_Re_27 dd_Re_readGuard_117 rfl hk.1 hk.2.1 (hk.2.2).1 ?_
            refine gf_iload_n C dd_Re_readGuard_120 4 rfl ?_
            refine gf_iconst C dd_Re_readGuard_121 ?_
            refine gf_iadd C dd_Re_readGuard_122 ?_
            refine gf_iald C dd_Re_readGuard_123 hk.2.2 (by omega) (fun hv123 => ?_)
            refine gf_bipush C dd_Re_readGuard_124 (by decide +kernel) ?_
            refine gf_isub C dd_Re_readGuard_126 ?_
            refine gf_putI (z := 2) C gf_cl0 fl_Re_49 dd_Re_readGuard_127 rfl rfl rfl (by decide +kernel) ha89.2 (by omega) ?_
            refine gf_nmM (fun m127 hm127 => ?_)
            have e127 : m127 44 1 = μ 44 1 := by rw [hm127, gf_up_k (by omega), hm111, gf_up_k (by omega), hm95, gf_up_k (by omega)]
            rw [f2] at hm127
            refine gf_aload_n C dd_Re_readGuard_130 2 rfl ?_
            refine gf_dup C dd_Re_readGuard_131 rfl ?_
            refine gf_getI (z := 1) C gf_cl2 fl_Re_18 dd_Re_readGuard_132 rfl rfl (show gf_is 81 44 0 2 2 by decide) (fun hv132 => ?_)
            refine gf_iconst C dd_Re_readGuard_135 ?_
            refine gf_iadd C dd_Re_readGuard_136 ?_
            refine gf_putI (z := 1) C gf_cl2 fl_Re_18 dd_Re_readGuard_137 rfl rfl rfl (by decide +kernel) (show gf_is 81 44 0 2 2 by decide) (by omega) ?_
            refine gf_nmM (fun m137 hm137 => ?_)
            refine gf_bipush C dd_Re_readGuard_140 (by decide +kernel) ?_
            refine gf_iret C hQ dd_Re_readGuard_142 (by omega) ?_
            refine ⟨?_, fun h => absurd rfl h, fun _ => ?_⟩
            · unfold pf_rg
              rw [if_neg (by omega), if_neg (by omega), if_neg (by omega), if_neg (by omega), if_neg (by omega)]
            · rw [hm137, e127, hm127, hm111, hm95, hr6]
          · skip
            refine gf_iload C dd_Re_readGuard_40 0 rfl ?_
            refine gf_aload_n C dd_Re_readGuard_42 3 rfl ?_
            refine gf_getI (z := 1) C gf_cl3 fl_Re_22 dd_Re_readGuard_43 rfl rfl hk.1 (fun hv43 => ?_)
            refine gf_icmp_lt 54 C dd_Re_readGuard_46 (by decide) (by omega) (by omega) (fun h46 => ?_) (fun h46 => ?_)
            · skip
              refine gf_aload_n C dd_Re_readGuard_54 3 rfl ?_
              refine gf_getA (r := (k + 1)) C gf_cl3 fl_Re_27 dd_Re_readGuard_55 rfl hk.1 hk.2.1 (hk.2.2).1 ?_
              refine gf_iload C dd_Re_readGuard_58 0 rfl ?_
              have hBq := hB q (by omega) (by omega)
              refine gf_iald C dd_Re_readGuard_60 hk.2.2 (by omega) (fun hv60 => ?_)
              refine gf_bipush C dd_Re_readGuard_61 (by decide +kernel) ?_
              refine gf_isub C dd_Re_readGuard_63 ?_
              refine gf_bipush C dd_Re_readGuard_64 (by decide +kernel) ?_
              refine gf_callNi (st := []) (As := [.int (gf_i ((μ (k + 1) q) - 48)), .int (gf_i 10)]) C im_Fi_isWithin C.2.2.2.2.2.2.1.2.2.2.2.2.2.2.2.1 (ct_Fi_isWithin (gf_xl X) E ((μ (k + 1) q) - 48) 10 μ (by omega) (by omega)) rfl ⟨rfl, rfl, rfl, rfl⟩ (Nat.le_of_ble_eq_true rfl) rfl dd_Re_readGuard_66 (fun r66 m66 hR66 hp66 => ?_)
              have hr66 := hp66.1
              refine gf_pm hp66.2 ?_
              refine gf_if_ne 75 C dd_Re_readGuard_69 (by decide) (by omega) (fun h69 => ?_) (fun h69 => ?_)
              · skip
                obtain ⟨x75, hx75⟩ : ∃ y : Int, y = q + 1 := ⟨_, rfl⟩
                refine gf_iinc (q := 0) (v := x75) (lv' := [(4, .int (gf_i x75)), (3, .int (gf_i r6)), (0, .ref (gf_ad E 44)), (1, .ref (gf_ad E k)), (2, .int (gf_i p))]) C dd_Re_readGuard_75 rfl hx75 (by decide) rfl ?_
                refine gf_goto 32 C dd_Re_readGuard_78 (by decide) ?_
                refine gf_lsub [0, 1, 2, 3, 4] rfl ?_
                exact ih32_1 x75 (by
                        have hw := hr66.2
                        refine ⟨by omega, by omega, fun h => ?_, fun h => ?_⟩
                        · by_cases e : q = p + 1
                          · subst e; omega
                          · exact hq2 (by omega)
                        · have e : q = p + 2 := by omega
                          subst e; omega) (by omega)
              · skip
                refine gf_iload C dd_Re_readGuard_72 0 rfl ?_
                refine gf_iret C hQ dd_Re_readGuard_74 (by omega) ?_
                have hw := hr66.1
                have hz : ¬ (48 ≤ μ (k + 1) q ∧ μ (k + 1) q ≤ 57) := by omega
                refine ⟨?_, fun _ => rfl, fun h => by omega⟩
                have hqc : q = p + 1 ∨ q = p + 2 := by omega
                unfold pf_rg
                rcases hqc with e | e <;> subst e
                · rw [if_neg (by omega), if_neg (by omega), if_pos hz]
                · rw [if_neg (by omega), if_neg (by omega), if_neg (by omega), if_neg (by omega), if_pos hz]
            · skip
              refine gf_aload_n C dd_Re_readGuard_49 3 rfl ?_
              refine gf_getI (z := 1) C gf_cl3 fl_Re_22 dd_Re_readGuard_50 rfl rfl hk.1 (fun hv50 => ?_)
              refine gf_iret C hQ dd_Re_readGuard_53 (by omega) ?_
              refine ⟨?_, fun _ => rfl, fun h => by omega⟩
              unfold pf_rg
              rw [if_neg (by omega)]
              repeat' split
              all_goals omega
      refine gf_lsub [0, 1, 2, 3, 4] rfl ?_
      exact L32_1 _ x30 (by omega) (Nat.lt_succ_self _)
    · skip
      refine gf_iload_n C dd_Re_readGuard_25 3 rfl ?_
      refine gf_iret C hQ dd_Re_readGuard_26 (by omega) ?_
      refine ⟨?_, fun _ => rfl, fun h => by omega⟩
      unfold pf_rg
      rw [if_pos (by omega)]

theorem dd_Re_read_0 : decode cc_Re_read 0 = .ok (.aload_n 0, 1) := by decide +kernel
theorem dd_Re_read_1 : decode cc_Re_read 1 = .ok (.iconst 0, 1) := by decide +kernel
theorem dd_Re_read_2 : decode cc_Re_read 2 = .ok (.putfield 18, 3) := by decide +kernel
theorem dd_Re_read_5 : decode cc_Re_read 5 = .ok (.iconst 0, 1) := by decide +kernel
theorem dd_Re_read_6 : decode cc_Re_read 6 = .ok (.istore_n 2, 1) := by decide +kernel
theorem dd_Re_read_7 : decode cc_Re_read 7 = .ok (.iconst 0, 1) := by decide +kernel
theorem dd_Re_read_8 : decode cc_Re_read 8 = .ok (.istore_n 3, 1) := by decide +kernel
theorem dd_Re_read_9 : decode cc_Re_read 9 = .ok (.iload_n 3, 1) := by decide +kernel
theorem dd_Re_read_10 : decode cc_Re_read 10 = .ok (.bipush 60, 2) := by decide +kernel
theorem dd_Re_read_12 : decode cc_Re_read 12 = .ok (.if_icmp .ge 55, 3) := by decide +kernel
theorem dd_Re_read_15 : decode cc_Re_read 15 = .ok (.iload_n 2, 1) := by decide +kernel
theorem dd_Re_read_16 : decode cc_Re_read 16 = .ok (.aload_n 1, 1) := by decide +kernel
theorem dd_Re_read_17 : decode cc_Re_read 17 = .ok (.getfield 22, 3) := by decide +kernel
theorem dd_Re_read_20 : decode cc_Re_read 20 = .ok (.if_icmp .ge 47, 3) := by decide +kernel
theorem dd_Re_read_23 : decode cc_Re_read 23 = .ok (.aload_n 1, 1) := by decide +kernel
theorem dd_Re_read_24 : decode cc_Re_read 24 = .ok (.getfield 27, 3) := by decide +kernel
theorem dd_Re_read_27 : decode cc_Re_read 27 = .ok (.iload_n 2, 1) := by decide +kernel
theorem dd_Re_read_28 : decode cc_Re_read 28 = .ok (.iaload, 1) := by decide +kernel
theorem dd_Re_read_29 : decode cc_Re_read 29 = .ok (.bipush 32, 2) := by decide +kernel
theorem dd_Re_read_31 : decode cc_Re_read 31 = .ok (.if_icmp .ne 9, 3) := by decide +kernel
theorem dd_Re_read_34 : decode cc_Re_read 34 = .ok (.iinc 2 1, 3) := by decide +kernel
theorem dd_Re_read_37 : decode cc_Re_read 37 = .ok (.goto 24, 3) := by decide +kernel
theorem dd_Re_read_40 : decode cc_Re_read 40 = .ok (.aload_n 0, 1) := by decide +kernel
theorem dd_Re_read_41 : decode cc_Re_read 41 = .ok (.aload_n 1, 1) := by decide +kernel
theorem dd_Re_read_42 : decode cc_Re_read 42 = .ok (.iload_n 2, 1) := by decide +kernel
theorem dd_Re_read_43 : decode cc_Re_read 43 = .ok (.invokevirtual 31, 3) := by decide +kernel
theorem dd_Re_read_46 : decode cc_Re_read 46 = .ok (.istore 4, 2) := by decide +kernel
theorem dd_Re_read_48 : decode cc_Re_read 48 = .ok (.iload 4, 2) := by decide +kernel
theorem dd_Re_read_50 : decode cc_Re_read 50 = .ok (.bipush (-9), 2) := by decide +kernel
theorem dd_Re_read_52 : decode cc_Re_read 52 = .ok (.if_icmp .eq 6, 3) := by decide +kernel
theorem dd_Re_read_55 : decode cc_Re_read 55 = .ok (.iload 4, 2) := by decide +kernel
theorem dd_Re_read_57 : decode cc_Re_read 57 = .ok (.ireturn, 1) := by decide +kernel
theorem dd_Re_read_58 : decode cc_Re_read 58 = .ok (.iinc 2 3, 3) := by decide +kernel
theorem dd_Re_read_61 : decode cc_Re_read 61 = .ok (.iinc 3 1, 3) := by decide +kernel
theorem dd_Re_read_64 : decode cc_Re_read 64 = .ok (.goto (-55), 3) := by decide +kernel
theorem dd_Re_read_67 : decode cc_Re_read 67 = .ok (.aload_n 0, 1) := by decide +kernel
theorem dd_Re_read_68 : decode cc_Re_read 68 = .ok (.getfield 18, 3) := by decide +kernel
theorem dd_Re_read_71 : decode cc_Re_read 71 = .ok (.iconst 2, 1) := by decide +kernel
theorem dd_Re_read_72 : decode cc_Re_read 72 = .ok (.if_icmp .ge 10, 3) := by decide +kernel
theorem dd_Re_read_75 : decode cc_Re_read 75 = .ok (.aload_n 1, 1) := by decide +kernel
theorem dd_Re_read_76 : decode cc_Re_read 76 = .ok (.getfield 22, 3) := by decide +kernel
theorem dd_Re_read_79 : decode cc_Re_read 79 = .ok (.goto 5, 3) := by decide +kernel
theorem dd_Re_read_82 : decode cc_Re_read 82 = .ok (.bipush (-9), 2) := by decide +kernel
theorem dd_Re_read_84 : decode cc_Re_read 84 = .ok (.ireturn, 1) := by decide +kernel
set_option maxRecDepth 100000 in
set_option maxHeartbeats 4000000 in
theorem ct_Re_read (l : Launch) (E : gf_E) (k : Int) (μ : gf_M) (hk : gf_oRow k 60) (hs : 0 ≤ μ k 1 ∧ μ k 1 ≤ 60) (hk44 : k < 43) (hB : ∀ j : Int, 0 ≤ j → j < μ k 1 → -128 ≤ μ (k + 1) j ∧ μ (k + 1) j ≤ 127) : gf_Mi l E yy_Re_read cc_Re_read 5 .int (gf_rm 2 45) 81 gf_ref μ [.ref (gf_ad E 44), .ref (gf_ad E k)] (fun r μ' => r = (pf_pr (μ (k + 1)) (μ k 1) 61 0 []).1 ∧ (r = -9 → μ' 44 1 = ((pf_pr (μ (k + 1)) (μ k 1) 61 0 []).2.length : Int) ∧ 2 ≤ μ' 44 1 ∧ μ' 44 1 ≤ 7 ∧ gf_hold μ' 46 (pf_pr (μ (k + 1)) (μ k 1) 61 0 []).2) ∧ ∀ a b : Int, ¬ (44 ≤ a ∧ a ≤ 52) → μ' a b = μ a b) := by
  refine gf_mi (by decide +kernel) (Nat.le_of_ble_eq_true rfl) (by decide) (fun X Q hlx C hQ => ?_)
  subst hlx
  replace C : gf_C X E cc_Re_read 5 "GuardFigures$Reader" (gf_rm 2 45) := C
  show gf_G X E Q 5 gf_φ μ 0 [(0, .ref (gf_ad E 44)), (1, .ref (gf_ad E k))] []
  have nk := hk.1.1
  refine gf_aload_n C dd_Re_read_0 0 rfl ?_
  refine gf_iconst C dd_Re_read_1 ?_
  refine gf_putI (z := 1) C gf_cl2 fl_Re_18 dd_Re_read_2 rfl rfl rfl (by decide +kernel) (show gf_is 81 44 0 2 2 by decide) (by omega) ?_
  refine gf_nmM (fun m2 hm2 => ?_)
  refine gf_iconst C dd_Re_read_5 ?_
  refine gf_istore_n (lv' := [(2, .int (gf_i 0)), (0, .ref (gf_ad E 44)), (1, .ref (gf_ad E k))]) C dd_Re_read_6 (by decide) rfl ?_
  refine gf_iconst C dd_Re_read_7 ?_
  refine gf_istore_n (lv' := [(3, .int (gf_i 0)), (2, .int (gf_i 0)), (0, .ref (gf_ad E 44)), (1, .ref (gf_ad E k))]) C dd_Re_read_8 (by decide) rfl ?_
  have L9_1 : ∀ (N : Nat) (p u : Int) (m : gf_M) , (∃ a : List (Int × Int × Int), 0 ≤ u ∧ u ≤ 60 ∧ u ≤ p ∧ p ≤ 180 ∧ a.length ≤ 7 ∧ pf_pr (μ (k + 1)) (μ k 1) 61 0 [] = pf_pr (μ (k + 1)) (μ k 1) (61 - u.toNat) p a ∧ m 44 1 = (a.length : Int) ∧ gf_hold m 46 a ∧ ∀ c b : Int, ¬ (44 ≤ c ∧ c ≤ 52) → m c b = μ c b) → (60 - u).toNat < N → gf_G X E Q 5 gf_φ m 9 [(2, .int (gf_i p)), (3, .int (gf_i u)), (0, .ref (gf_ad E 44)), (1, .ref (gf_ad E k))] [] := by
    intro N
    induction N with
    | zero => intro p u m hinv hN; exact absurd hN (Nat.not_lt_zero _)
    | succ N ih9_1 =>
      intro p u m hinv hN
      have hinv0 := hinv
      obtain ⟨a, hu0, hu1, hu2, hu3, hal, hpr, hm1, hho, hfr⟩ := hinv
      have fk1 := hfr k 1 (by omega)
      have ff : ∀ b : Int, m (k + 1) b = μ (k + 1) b := fun b => hfr (k + 1) b (by omega)
      have ffp := ff p
      refine gf_iload_n C dd_Re_read_9 1 rfl ?_
      refine gf_bipush C dd_Re_read_10 (by decide +kernel) ?_
      refine gf_icmp_ge 67 C dd_Re_read_12 (by decide) (by omega) (by omega) (fun h12 => ?_) (fun h12 => ?_)
      · skip
        refine gf_aload_n C dd_Re_read_67 2 rfl ?_
        refine gf_getI (z := 1) C gf_cl2 fl_Re_18 dd_Re_read_68 rfl rfl (show gf_is 81 44 0 2 2 by decide) (fun hv68 => ?_)
        refine gf_iconst C dd_Re_read_71 ?_
        refine gf_icmp_ge 82 C dd_Re_read_72 (by decide) (by omega) (by omega) (fun h72 => ?_) (fun h72 => ?_)
        · skip
          refine gf_bipush C dd_Re_read_82 (by decide +kernel) ?_
          refine gf_iret C hQ dd_Re_read_84 (by omega) ?_
          have hfin : pf_pr (μ (k + 1)) (μ k 1) 61 0 [] = (if (a.length : Int) < 2 then μ k 1 else -9, a) := by
            rw [hpr, show 61 - u.toNat = (60 - u.toNat) + 1 by omega]
            show (if _ ≤ p then _ else if _ then _ else if _ then _ else _) = _
            rw [if_pos (by omega)]
          rw [hfin]
          first
            | (refine ⟨?_, fun h => by omega, hfr⟩; show _ = if _ then _ else _; rw [if_pos (by omega)]; exact fk1)
            | (refine ⟨?_, fun h => ⟨hm1, by omega, by omega, hho⟩, hfr⟩; show _ = if _ then _ else _; rw [if_neg (by omega)])
        · skip
          refine gf_aload_n C dd_Re_read_75 3 rfl ?_
          refine gf_getI (z := 1) C gf_cl3 fl_Re_22 dd_Re_read_76 rfl rfl hk.1 (fun hv76 => ?_)
          refine gf_goto 84 C dd_Re_read_79 (by decide) ?_
          refine gf_iret C hQ dd_Re_read_84 (by omega) ?_
          have hfin : pf_pr (μ (k + 1)) (μ k 1) 61 0 [] = (if (a.length : Int) < 2 then μ k 1 else -9, a) := by
            rw [hpr, show 61 - u.toNat = (60 - u.toNat) + 1 by omega]
            show (if _ ≤ p then _ else if _ then _ else if _ then _ else _) = _
            rw [if_pos (by omega)]
          rw [hfin]
          first
            | (refine ⟨?_, fun h => by omega, hfr⟩; show _ = if _ then _ else _; rw [if_pos (by omega)]; exact fk1)
            | (refine ⟨?_, fun h => ⟨hm1, by omega, by omega, hho⟩, hfr⟩; show _ = if _ then _ else _; rw [if_neg (by omega)])
      · skip
        refine gf_iload_n C dd_Re_read_15 0 rfl ?_
        refine gf_aload_n C dd_Re_read_16 3 rfl ?_
        refine gf_getI (z := 1) C gf_cl3 fl_Re_22 dd_Re_read_17 rfl rfl hk.1 (fun hv17 => ?_)
        refine gf_icmp_ge 67 C dd_Re_read_20 (by decide) (by omega) (by omega) (fun h20 => ?_) (fun h20 => ?_)
        · skip
          refine gf_aload_n C dd_Re_read_67 2 rfl ?_
          refine gf_getI (z := 1) C gf_cl2 fl_Re_18 dd_Re_read_68 rfl rfl (show gf_is 81 44 0 2 2 by decide) (fun hv68 => ?_)
          refine gf_iconst C dd_Re_read_71 ?_
          refine gf_icmp_ge 82 C dd_Re_read_72 (by decide) (by omega) (by omega) (fun h72 => ?_) (fun h72 => ?_)
          · skip
            refine gf_bipush C dd_Re_read_82 (by decide +kernel) ?_
            refine gf_iret C hQ dd_Re_read_84 (by omega) ?_
            have hfin : pf_pr (μ (k + 1)) (μ k 1) 61 0 [] = (if (a.length : Int) < 2 then μ k 1 else -9, a) := by
              rw [hpr, show 61 - u.toNat = (60 - u.toNat) + 1 by omega]
              show (if _ ≤ p then _ else if _ then _ else if _ then _ else _) = _
              rw [if_pos (by omega)]
            rw [hfin]
            first
              | (refine ⟨?_, fun h => by omega, hfr⟩; show _ = if _ then _ else _; rw [if_pos (by omega)]; exact fk1)
              | (refine ⟨?_, fun h => ⟨hm1, by omega, by omega, hho⟩, hfr⟩; show _ = if _ then _ else _; rw [if_neg (by omega)])
          · skip
            refine gf_aload_n C dd_Re_read_75 3 rfl ?_
            refine gf_getI (z := 1) C gf_cl3 fl_Re_22 dd_Re_read_76 rfl rfl hk.1 (fun hv76 => ?_)
            refine gf_goto 84 C dd_Re_read_79 (by decide) ?_
            refine gf_iret C hQ dd_Re_read_84 (by omega) ?_
            have hfin : pf_pr (μ (k + 1)) (μ k 1) 61 0 [] = (if (a.length : Int) < 2 then μ k 1 else -9, a) := by
              rw [hpr, show 61 - u.toNat = (60 - u.toNat) + 1 by omega]
              show (if _ ≤ p then _ else if _ then _ else if _ then _ else _) = _
              rw [if_pos (by omega)]
            rw [hfin]
            first
              | (refine ⟨?_, fun h => by omega, hfr⟩; show _ = if _ then _ else _; rw [if_pos (by omega)]; exact fk1)
              | (refine ⟨?_, fun h => ⟨hm1, by omega, by omega, hho⟩, hfr⟩; show _ = if _ then _ else _; rw [if_neg (by omega)])
        · skip
          refine gf_aload_n C dd_Re_read_23 3 rfl ?_
          refine gf_getA (r := (k + 1)) C gf_cl3 fl_Re_27 dd_Re_read_24 rfl hk.1 hk.2.1 (hk.2.2).1 ?_
          refine gf_iload_n C dd_Re_read_27 0 rfl ?_
          refine gf_iald C dd_Re_read_28 hk.2.2 (by omega) (fun hv28 => ?_)
          refine gf_bipush C dd_Re_read_29 (by decide +kernel) ?_
          refine gf_icmp_ne 40 C dd_Re_read_31 (by decide) (by omega) (by omega) (fun h31 => ?_) (fun h31 => ?_)
          · skip
            refine gf_aload_n C dd_Re_read_40 2 rfl ?_
            refine gf_aload_n C dd_Re_read_41 3 rfl ?_
            refine gf_iload_n C dd_Re_read_42 0 rfl ?_
            refine gf_callVi (st := []) (As := [.ref (gf_ad E k), .int (gf_i p)]) C wk_Re_31 gf_cl2 (show gf_is 81 44 0 2 2 by decide) (ct_Re_readGuard (gf_xl X) E k p m hk (by omega) (by omega) (by omega) (by omega) (fun j h0 h1 => by rw [hfr (k + 1) j (by omega)]; exact hB j h0 (by omega))) rfl ⟨rfl, rfl, rfl, rfl⟩ (Nat.le_of_ble_eq_true rfl) rfl dd_Re_read_43 (fun r43 m43 hR43 hp43 => ?_)
            refine gf_istore (lv' := [(4, .int (gf_i r43)), (2, .int (gf_i p)), (3, .int (gf_i u)), (0, .ref (gf_ad E 44)), (1, .ref (gf_ad E k))]) C dd_Re_read_46 (by decide) rfl ?_
            refine gf_iload C dd_Re_read_48 0 rfl ?_
            refine gf_bipush C dd_Re_read_50 (by decide +kernel) ?_
            refine gf_icmp_eq 58 C dd_Re_read_52 (by decide) (by omega) (by omega) (fun h52 => ?_) (fun h52 => ?_)
            · skip
              obtain ⟨x58, hx58⟩ : ∃ y : Int, y = p + 3 := ⟨_, rfl⟩
              refine gf_iinc (q := 1) (v := x58) (lv' := [(2, .int (gf_i x58)), (4, .int (gf_i r43)), (3, .int (gf_i u)), (0, .ref (gf_ad E 44)), (1, .ref (gf_ad E k))]) C dd_Re_read_58 rfl hx58 (by decide) rfl ?_
              obtain ⟨x61, hx61⟩ : ∃ y : Int, y = u + 1 := ⟨_, rfl⟩
              refine gf_iinc (q := 2) (v := x61) (lv' := [(3, .int (gf_i x61)), (2, .int (gf_i x58)), (4, .int (gf_i r43)), (0, .ref (gf_ad E 44)), (1, .ref (gf_ad E k))]) C dd_Re_read_61 rfl hx61 (by decide) rfl ?_
              refine gf_goto 9 C dd_Re_read_64 (by decide) ?_
              refine gf_lsub [1, 0, 3, 4] rfl ?_
              exact ih9_1 x58 x61 m43 (by
                      first
                      | (refine ⟨a, by omega, by omega, by omega, by omega, hal, ?_, hm1, hho, hfr⟩
                         rw [hpr, show 61 - u.toNat = (61 - x61.toNat) + 1 by omega]
                         show (if _ ≤ p then _ else if _ then _ else _) = _
                         rw [if_neg (by omega), if_pos (by omega), hx34])
                      | (obtain ⟨hra, hrb, hrc⟩ := hp43
                         have h9 : r43 = -9 := by omega
                         have hu := hrc h9
                         have hlen : pf_rg (μ (k + 1)) (μ k 1) p (a.length : Int) = -9 := by rw [← h9, hra, hm1, fk1, show m (k + 1) = μ (k + 1) from funext ff]
                         have hl7 : (a.length : Int) < 7 := by
                           unfold pf_rg at hlen
                           by_cases z : pf_pk (μ (k + 1) p) = -9 ∨ 7 ≤ (a.length : Int)
                           · rw [if_pos z] at hlen; omega
                           · omega
                         have hf : ∀ c b : Int, c ≠ 44 → c ≠ 46 + (a.length : Int) → m43 c b = m c b := fun c b h1 h2 => by rw [hu, hm1, gf_up_k h1, gf_up_k h2, gf_up_k h2, gf_up_k h2]
                         refine ⟨a ++ [(pf_pk (μ (k + 1) p), μ (k + 1) (p + 1) - 48, μ (k + 1) (p + 2) - 48)], by omega, by omega, by omega, by omega, by simp; omega, ?_, by rw [hu, gf_up_s, hm1]; simp, ?_, fun c b h => by rw [hf c b (by omega) (by omega)]; exact hfr c b h⟩
                         · rw [hpr, show 61 - u.toNat = (61 - x61.toNat) + 1 by omega]
                           show (if _ ≤ p then _ else if _ then _ else if _ then _ else _) = _
                           rw [if_neg (by omega), if_neg (by omega), if_pos hlen, hx58]
                         · refine gf_hold_app hho (fun i j hi => hf _ _ (by omega) (by omega)) ?_
                           rw [hu, hm1, ff p, ff (p + 1), ff (p + 2)]
                           refine ⟨?_, ?_, ?_⟩
                           · rw [gf_up_k (by omega), gf_up_j (by decide), gf_up_j (by decide)]; exact gf_up_s
                           · rw [gf_up_k (by omega), gf_up_j (by decide)]; exact gf_up_s
                           · rw [gf_up_k (by omega)]; exact gf_up_s)) (by omega)
            · skip
              refine gf_iload C dd_Re_read_55 0 rfl ?_
              refine gf_iret C hQ dd_Re_read_57 (by omega) ?_
              obtain ⟨hra, hrb, hrc⟩ := hp43
              have h9 : r43 ≠ -9 := by omega
              have hlen : r43 = pf_rg (μ (k + 1)) (μ k 1) p (a.length : Int) := by rw [hra, hm1, fk1, show m (k + 1) = μ (k + 1) from funext ff]
              have hfin : pf_pr (μ (k + 1)) (μ k 1) 61 0 [] = (r43, a) := by
                rw [hpr, show 61 - u.toNat = (60 - u.toNat) + 1 by omega]
                show (if _ ≤ p then _ else if _ then _ else if _ then _ else _) = _
                rw [if_neg (by omega), if_neg (by omega), if_neg (by omega), ← hlen]
              refine ⟨by rw [hfin], fun h => absurd h h9, fun c b h => by rw [hrb h9]; exact hfr c b h⟩
          · skip
            obtain ⟨x34, hx34⟩ : ∃ y : Int, y = p + 1 := ⟨_, rfl⟩
            refine gf_iinc (q := 0) (v := x34) (lv' := [(2, .int (gf_i x34)), (3, .int (gf_i u)), (0, .ref (gf_ad E 44)), (1, .ref (gf_ad E k))]) C dd_Re_read_34 rfl hx34 (by decide) rfl ?_
            refine gf_goto 61 C dd_Re_read_37 (by decide) ?_
            obtain ⟨x61, hx61⟩ : ∃ y : Int, y = u + 1 := ⟨_, rfl⟩
            refine gf_iinc (q := 1) (v := x61) (lv' := [(3, .int (gf_i x61)), (2, .int (gf_i x34)), (0, .ref (gf_ad E 44)), (1, .ref (gf_ad E k))]) C dd_Re_read_61 rfl hx61 (by decide) rfl ?_
            refine gf_goto 9 C dd_Re_read_64 (by decide) ?_
            refine gf_lsub [1, 0, 2, 3] rfl ?_
            exact ih9_1 x34 x61 m (by
                    first
                    | (refine ⟨a, by omega, by omega, by omega, by omega, hal, ?_, hm1, hho, hfr⟩
                       rw [hpr, show 61 - u.toNat = (61 - x61.toNat) + 1 by omega]
                       show (if _ ≤ p then _ else if _ then _ else _) = _
                       rw [if_neg (by omega), if_pos (by omega), hx34])
                    | (obtain ⟨hra, hrb, hrc⟩ := hp43
                       have h9 : r43 = -9 := by omega
                       have hu := hrc h9
                       have hlen : pf_rg (μ (k + 1)) (μ k 1) p (a.length : Int) = -9 := by rw [← h9, hra, hm1, fk1, show m (k + 1) = μ (k + 1) from funext ff]
                       have hl7 : (a.length : Int) < 7 := by
                         unfold pf_rg at hlen
                         by_cases z : pf_pk (μ (k + 1) p) = -9 ∨ 7 ≤ (a.length : Int)
                         · rw [if_pos z] at hlen; omega
                         · omega
                       have hf : ∀ c b : Int, c ≠ 44 → c ≠ 46 + (a.length : Int) → m43 c b = m c b := fun c b h1 h2 => by rw [hu, hm1, gf_up_k h1, gf_up_k h2, gf_up_k h2, gf_up_k h2]
                       refine ⟨a ++ [(pf_pk (μ (k + 1) p), μ (k + 1) (p + 1) - 48, μ (k + 1) (p + 2) - 48)], by omega, by omega, by omega, by omega, by simp; omega, ?_, by rw [hu, gf_up_s, hm1]; simp, ?_, fun c b h => by rw [hf c b (by omega) (by omega)]; exact hfr c b h⟩
                       · rw [hpr, show 61 - u.toNat = (61 - x61.toNat) + 1 by omega]
                         show (if _ ≤ p then _ else if _ then _ else if _ then _ else _) = _
                         rw [if_neg (by omega), if_neg (by omega), if_pos hlen, hx58]
                       · refine gf_hold_app hho (fun i j hi => hf _ _ (by omega) (by omega)) ?_
                         rw [hu, hm1, ff p, ff (p + 1), ff (p + 2)]
                         refine ⟨?_, ?_, ?_⟩
                         · rw [gf_up_k (by omega), gf_up_j (by decide), gf_up_j (by decide)]; exact gf_up_s
                         · rw [gf_up_k (by omega), gf_up_j (by decide)]; exact gf_up_s
                         · rw [gf_up_k (by omega)]; exact gf_up_s)) (by omega)
  refine gf_lsub [1, 0, 2, 3] rfl ?_
  exact L9_1 _ 0 0 m2 (⟨[], by omega, by omega, by omega, by omega, by simp, rfl, by rw [hm2]; exact gf_up_s, fun i q h => by simp at h, fun c b h => by rw [hm2]; exact gf_up_k (by omega)⟩) (Nat.lt_succ_self _)
end
section
/-! Watch: slips, swaps, jumps -/
/-- the other figures of one place, as marks -/
def pf_slr (x k : Int) : Nat → List Int
  | 0 => []
  | v + 1 => pf_slr x k v ++ (if (v : Int) = x then [] else [k * 10 + v])
def pf_sl (f : Int → Int) : Nat → List Int
  | 0 => []
  | k + 1 => pf_sl f k ++ pf_slr (f k) k 10
/-- places whose figure is unlike the one 'off' further on -/
def pf_ex (f : Int → Int) (off : Int) : Nat → List Int
  | 0 => []
  | k + 1 => pf_ex f off k ++ (if f k = f (k + off) then [] else [(k : Int)])
theorem pf_slr_len (x k : Int) : ∀ v : Nat, (pf_slr x k v).length ≤ v ∧ (0 ≤ x → x < v → (pf_slr x k v).length + 1 ≤ v)
  | 0 => ⟨by simp [pf_slr], by omega⟩
  | v + 1 => by
    have ih := pf_slr_len x k v
    unfold pf_slr
    by_cases h : (v : Int) = x
    · rw [if_pos h]; simp; omega
    · rw [if_neg h]; simp; omega
theorem pf_sl_len {f : Int → Int} : ∀ k : Nat, (∀ j : Int, 0 ≤ j → j < k → 0 ≤ f j ∧ f j ≤ 9) → (pf_sl f k).length ≤ 9 * k
  | 0, _ => by simp [pf_sl]
  | k + 1, h => by
    have ih := pf_sl_len k (fun j h0 h1 => h j h0 (by omega))
    have h1 := (pf_slr_len (f k) k 10).2 (h k (by omega) (by omega)).1 (by have := (h k (by omega) (by omega)).2; omega)
    unfold pf_sl
    simp
    omega
theorem pf_ex_len (f : Int → Int) (off : Int) : ∀ k : Nat, (pf_ex f off k).length ≤ k
  | 0 => by simp [pf_ex]
  | k + 1 => by
    have ih := pf_ex_len f off k
    unfold pf_ex
    by_cases h : f k = f (k + off)
    · rw [if_pos h]; simp; omega
    · rw [if_neg h]; simp; omega
def gf_lst (μ : gf_M) (a : Int) (l : List Int) : Prop := ∀ (i : Nat) (x : Int), l[i]? = some x → μ a i = x
theorem gf_lst_app {μ μ' : gf_M} {a : Int} {l : List Int} {x : Int} (h : gf_lst μ a l) (hm : ∀ i : Int, 0 ≤ i → i < l.length → μ' a i = μ a i) (hx : μ' a l.length = x) : gf_lst μ' a (l ++ [x]) := by
  intro i r hr
  by_cases hi : i < l.length
  · rw [List.getElem?_append_left hi] at hr
    rw [hm i (by omega) (by omega)]
    exact h i r hr
  · rw [List.getElem?_append_right (by omega)] at hr
    have hz : i - l.length < 1 := (List.getElem?_eq_some_iff.mp hr).1
    have : i = l.length := by omega
    subst this
    rw [Nat.sub_self] at hr
    cases hr
    exact hx
/-- the watch lists l; else all is as it was -/
def gf_ls (μ0 m : gf_M) (l : List Int) : Prop := m 53 2 = (l.length : Int) ∧ gf_lst m 54 l ∧ (∀ t : Int, 0 ≤ t → t < l.length → m 55 t = 0) ∧ ∀ a b : Int, ¬ (53 ≤ a ∧ a ≤ 56) → m a b = μ0 a b
theorem gf_ls_add {μ0 m m' : gf_M} {l : List Int} {x : Int} (h : gf_ls μ0 m l) (hm : m' = gf_up (gf_up (gf_up m 54 (m 53 2) x) 55 (m 53 2) 0) 53 2 (m 53 2 + 1)) : gf_ls μ0 m' (l ++ [x]) ∧ ∀ b : Int, m' 56 b = m 56 b := by
  obtain ⟨h1, h2, h3, h4⟩ := h
  subst hm
  refine ⟨⟨by rw [gf_up_s, h1]; simp, gf_lst_app h2 (fun i h0 hi => ?_) ?_, fun t h0 ht => ?_, fun a b hab => ?_⟩, fun b => ?_⟩
  · rw [gf_up_k (by decide), gf_up_k (by decide), gf_up_j (by omega)]
  · rw [gf_up_k (by decide), gf_up_k (by decide), h1]; exact gf_up_s
  · rw [gf_up_k (by decide)]
    by_cases e : t = m 53 2
    · rw [e]; exact gf_up_s
    · rw [gf_up_j e, gf_up_k (by decide)]
      exact h3 t h0 (by simp at ht; omega)
  · rw [gf_up_k (by omega), gf_up_k (by omega), gf_up_k (by omega)]; exact h4 a b hab
  · rw [gf_up_k (by decide), gf_up_k (by decide), gf_up_k (by decide)]
theorem gf_ls_end {μ0 m m' : gf_M} {l : List Int} {j x : Int} (h : gf_ls μ0 m l) (hm : m' = gf_up m 56 j x) : gf_ls μ0 m' l := by
  obtain ⟨h1, h2, h3, h4⟩ := h
  subst hm
  refine ⟨by rw [gf_up_k (by decide)]; exact h1, fun i y hy => by rw [gf_up_k (by decide)]; exact h2 i y hy, fun t h0 ht => by rw [gf_up_k (by decide)]; exact h3 t h0 ht, fun a b hab => by rw [gf_up_k (by omega)]; exact h4 a b hab⟩
theorem dd_Wa_list_0 : decode cc_Wa_list 0 = .ok (.aload_n 0, 1) := by decide +kernel
theorem dd_Wa_list_1 : decode cc_Wa_list 1 = .ok (.getfield 46, 3) := by decide +kernel
theorem dd_Wa_list_4 : decode cc_Wa_list 4 = .ok (.bipush 88, 2) := by decide +kernel
theorem dd_Wa_list_6 : decode cc_Wa_list 6 = .ok (.if_icmp .ge 33, 3) := by decide +kernel
theorem dd_Wa_list_9 : decode cc_Wa_list 9 = .ok (.aload_n 0, 1) := by decide +kernel
theorem dd_Wa_list_10 : decode cc_Wa_list 10 = .ok (.getfield 11, 3) := by decide +kernel
theorem dd_Wa_list_13 : decode cc_Wa_list 13 = .ok (.aload_n 0, 1) := by decide +kernel
theorem dd_Wa_list_14 : decode cc_Wa_list 14 = .ok (.getfield 46, 3) := by decide +kernel
theorem dd_Wa_list_17 : decode cc_Wa_list 17 = .ok (.iload_n 1, 1) := by decide +kernel
theorem dd_Wa_list_18 : decode cc_Wa_list 18 = .ok (.iastore, 1) := by decide +kernel
theorem dd_Wa_list_19 : decode cc_Wa_list 19 = .ok (.aload_n 0, 1) := by decide +kernel
theorem dd_Wa_list_20 : decode cc_Wa_list 20 = .ok (.getfield 15, 3) := by decide +kernel
theorem dd_Wa_list_23 : decode cc_Wa_list 23 = .ok (.aload_n 0, 1) := by decide +kernel
theorem dd_Wa_list_24 : decode cc_Wa_list 24 = .ok (.getfield 46, 3) := by decide +kernel
theorem dd_Wa_list_27 : decode cc_Wa_list 27 = .ok (.iconst 0, 1) := by decide +kernel
theorem dd_Wa_list_28 : decode cc_Wa_list 28 = .ok (.iastore, 1) := by decide +kernel
theorem dd_Wa_list_29 : decode cc_Wa_list 29 = .ok (.aload_n 0, 1) := by decide +kernel
theorem dd_Wa_list_30 : decode cc_Wa_list 30 = .ok (.dup, 1) := by decide +kernel
theorem dd_Wa_list_31 : decode cc_Wa_list 31 = .ok (.getfield 46, 3) := by decide +kernel
theorem dd_Wa_list_34 : decode cc_Wa_list 34 = .ok (.iconst 1, 1) := by decide +kernel
theorem dd_Wa_list_35 : decode cc_Wa_list 35 = .ok (.iadd, 1) := by decide +kernel
theorem dd_Wa_list_36 : decode cc_Wa_list 36 = .ok (.putfield 46, 3) := by decide +kernel
theorem dd_Wa_list_39 : decode cc_Wa_list 39 = .ok (.return_, 1) := by decide +kernel
set_option maxRecDepth 100000 in
set_option maxHeartbeats 4000000 in
theorem ct_Wa_list (l : Launch) (E : gf_E) (x : Int) (μ : gf_M) (hx : gf_R x) (ht : 0 ≤ μ 53 2 ∧ μ 53 2 < 88) : gf_Mv l E yy_Wa_list cc_Wa_list 2 (gf_rm 0 0) 81 gf_ref 0 0 81 gf_ref μ [.ref (gf_ad E 53), .int (gf_i x)] (fun μ' => μ' = gf_up (gf_up (gf_up μ 54 (μ 53 2) x) 55 (μ 53 2) 0) 53 2 (μ 53 2 + 1)) := by
  refine gf_mv (by decide +kernel) (Nat.le_of_ble_eq_true rfl) (by decide) (fun X Q hlx C hname hQ => ?_)
  subst hlx
  replace C : gf_C X E cc_Wa_list 2 "GuardFigures$Watch" (gf_rm 0 0) := C
  show gf_G X E Q 2 gf_φ μ 0 [(0, .ref (gf_ad E 53)), (1, .int (gf_i x))] []
  refine gf_aload_n C dd_Wa_list_0 0 rfl ?_
  refine gf_getI (z := 2) C gf_cl4 fl_Wa_46 dd_Wa_list_1 rfl rfl (show gf_is 81 53 0 4 6 by decide) (fun hv1 => ?_)
  refine gf_bipush C dd_Wa_list_4 (by decide +kernel) ?_
  refine gf_icmp_ge 39 C dd_Wa_list_6 (by decide) (by omega) (by omega) (fun h6 => ?_) (fun h6 => ?_)
  · skip
    refine gf_vret C hQ dd_Wa_list_39 ?_
    first | omega | rw [hm36, e28, hm28, e18, hm18]
  · skip
    refine gf_aload_n C dd_Wa_list_9 0 rfl ?_
    refine gf_getA (r := 54) C gf_cl4 fl_Wa_11 dd_Wa_list_10 rfl (show gf_is 81 53 0 4 6 by decide) (by decide) (by decide) ?_
    refine gf_aload_n C dd_Wa_list_13 0 rfl ?_
    refine gf_getI (z := 2) C gf_cl4 fl_Wa_46 dd_Wa_list_14 rfl rfl (show gf_is 81 53 0 4 6 by decide) (fun hv14 => ?_)
    refine gf_iload_n C dd_Wa_list_17 1 rfl ?_
    refine gf_iast C dd_Wa_list_18 (show gf_is 81 54 1 0 88 by decide) (by omega) (by omega) ?_
    refine gf_nmM (fun m18 hm18 => ?_)
    have e18 : m18 53 2 = μ 53 2 := by rw [hm18]; exact gf_up_k (by decide)
    refine gf_aload_n C dd_Wa_list_19 0 rfl ?_
    refine gf_getA (r := 55) C gf_cl4 fl_Wa_15 dd_Wa_list_20 rfl (show gf_is 81 53 0 4 6 by decide) (by decide) (by decide) ?_
    refine gf_aload_n C dd_Wa_list_23 0 rfl ?_
    refine gf_getI (z := 2) C gf_cl4 fl_Wa_46 dd_Wa_list_24 rfl rfl (show gf_is 81 53 0 4 6 by decide) (fun hv24 => ?_)
    refine gf_iconst C dd_Wa_list_27 ?_
    refine gf_iast C dd_Wa_list_28 (show gf_is 81 55 1 0 88 by decide) (by omega) (by omega) ?_
    refine gf_nmM (fun m28 hm28 => ?_)
    have e28 : m28 53 2 = μ 53 2 := by rw [hm28, gf_up_k (by decide)]; exact e18
    refine gf_aload_n C dd_Wa_list_29 0 rfl ?_
    refine gf_dup C dd_Wa_list_30 rfl ?_
    refine gf_getI (z := 2) C gf_cl4 fl_Wa_46 dd_Wa_list_31 rfl rfl (show gf_is 81 53 0 4 6 by decide) (fun hv31 => ?_)
    refine gf_iconst C dd_Wa_list_34 ?_
    refine gf_iadd C dd_Wa_list_35 ?_
    refine gf_putI (z := 2) C gf_cl4 fl_Wa_46 dd_Wa_list_36 rfl rfl rfl (by decide +kernel) (show gf_is 81 53 0 4 6 by decide) (by omega) ?_
    refine gf_nmM (fun m36 hm36 => ?_)
    refine gf_vret C hQ dd_Wa_list_39 ?_
    first | omega | rw [hm36, e28, hm28, e18, hm18]

theorem dd_Wa_listExchanges_0 : decode cc_Wa_listExchanges 0 = .ok (.iconst 0, 1) := by decide +kernel
theorem dd_Wa_listExchanges_1 : decode cc_Wa_listExchanges 1 = .ok (.istore_n 3, 1) := by decide +kernel
theorem dd_Wa_listExchanges_2 : decode cc_Wa_listExchanges 2 = .ok (.iload_n 3, 1) := by decide +kernel
theorem dd_Wa_listExchanges_3 : decode cc_Wa_listExchanges 3 = .ok (.aload_n 1, 1) := by decide +kernel
theorem dd_Wa_listExchanges_4 : decode cc_Wa_listExchanges 4 = .ok (.getfield 36, 3) := by decide +kernel
theorem dd_Wa_listExchanges_7 : decode cc_Wa_listExchanges 7 = .ok (.iload_n 2, 1) := by decide +kernel
theorem dd_Wa_listExchanges_8 : decode cc_Wa_listExchanges 8 = .ok (.isub, 1) := by decide +kernel
theorem dd_Wa_listExchanges_9 : decode cc_Wa_listExchanges 9 = .ok (.if_icmp .ge 31, 3) := by decide +kernel
theorem dd_Wa_listExchanges_12 : decode cc_Wa_listExchanges 12 = .ok (.aload_n 1, 1) := by decide +kernel
theorem dd_Wa_listExchanges_13 : decode cc_Wa_listExchanges 13 = .ok (.getfield 31, 3) := by decide +kernel
theorem dd_Wa_listExchanges_16 : decode cc_Wa_listExchanges 16 = .ok (.iload_n 3, 1) := by decide +kernel
theorem dd_Wa_listExchanges_17 : decode cc_Wa_listExchanges 17 = .ok (.iaload, 1) := by decide +kernel
theorem dd_Wa_listExchanges_18 : decode cc_Wa_listExchanges 18 = .ok (.aload_n 1, 1) := by decide +kernel
theorem dd_Wa_listExchanges_19 : decode cc_Wa_listExchanges 19 = .ok (.getfield 31, 3) := by decide +kernel
theorem dd_Wa_listExchanges_22 : decode cc_Wa_listExchanges 22 = .ok (.iload_n 3, 1) := by decide +kernel
theorem dd_Wa_listExchanges_23 : decode cc_Wa_listExchanges 23 = .ok (.iload_n 2, 1) := by decide +kernel
theorem dd_Wa_listExchanges_24 : decode cc_Wa_listExchanges 24 = .ok (.iadd, 1) := by decide +kernel
theorem dd_Wa_listExchanges_25 : decode cc_Wa_listExchanges 25 = .ok (.iaload, 1) := by decide +kernel
theorem dd_Wa_listExchanges_26 : decode cc_Wa_listExchanges 26 = .ok (.if_icmp .eq 8, 3) := by decide +kernel
theorem dd_Wa_listExchanges_29 : decode cc_Wa_listExchanges 29 = .ok (.aload_n 0, 1) := by decide +kernel
theorem dd_Wa_listExchanges_30 : decode cc_Wa_listExchanges 30 = .ok (.iload_n 3, 1) := by decide +kernel
theorem dd_Wa_listExchanges_31 : decode cc_Wa_listExchanges 31 = .ok (.invokevirtual 65, 3) := by decide +kernel
theorem dd_Wa_listExchanges_34 : decode cc_Wa_listExchanges 34 = .ok (.iinc 3 1, 3) := by decide +kernel
theorem dd_Wa_listExchanges_37 : decode cc_Wa_listExchanges 37 = .ok (.goto (-35), 3) := by decide +kernel
theorem dd_Wa_listExchanges_40 : decode cc_Wa_listExchanges 40 = .ok (.return_, 1) := by decide +kernel
set_option maxRecDepth 100000 in
set_option maxHeartbeats 4000000 in
theorem ct_Wa_listExchanges (l : Launch) (E : gf_E) (off : Int) (μ μ0 : gf_M) (li : List Int) (ho : off = 1 ∨ off = 2) (hl : gf_ls μ0 μ li) (hln : li.length ≤ 79) (hs : 0 ≤ μ 41 1 ∧ μ 41 1 ≤ 8) : gf_Mv l E yy_Wa_listExchanges cc_Wa_listExchanges 4 (gf_rm 1 21) 81 gf_ref 0 0 81 gf_ref μ [.ref (gf_ad E 53), .ref (gf_ad E 41), .int (gf_i off)] (fun μ' => gf_ls μ0 μ' (li ++ pf_ex (μ 42) off (μ 41 1 - off).toNat) ∧ ∀ b : Int, μ' 56 b = μ 56 b) := by
  refine gf_mv (by decide +kernel) (Nat.le_of_ble_eq_true rfl) (by decide) (fun X Q hlx C hname hQ => ?_)
  subst hlx
  replace C : gf_C X E cc_Wa_listExchanges 4 "GuardFigures$Watch" (gf_rm 1 21) := C
  show gf_G X E Q 4 gf_φ μ 0 [(0, .ref (gf_ad E 53)), (1, .ref (gf_ad E 41)), (2, .int (gf_i off))] []
  refine gf_iconst C dd_Wa_listExchanges_0 ?_
  refine gf_istore_n (lv' := [(3, .int (gf_i 0)), (0, .ref (gf_ad E 53)), (1, .ref (gf_ad E 41)), (2, .int (gf_i off))]) C dd_Wa_listExchanges_1 (by decide) rfl ?_
  have L2_1 : ∀ (N : Nat) (k : Int) (m : gf_M) , (0 ≤ k ∧ (k = 0 ∨ k ≤ μ 41 1 - off) ∧ gf_ls μ0 m (li ++ pf_ex (μ 42) off k.toNat) ∧ ∀ b : Int, m 56 b = μ 56 b) → (8 - k).toNat < N → gf_G X E Q 4 gf_φ m 2 [(3, .int (gf_i k)), (0, .ref (gf_ad E 53)), (1, .ref (gf_ad E 41)), (2, .int (gf_i off))] [] := by
    intro N
    induction N with
    | zero => intro k m hinv hN; exact absurd hN (Nat.not_lt_zero _)
    | succ N ih2_1 =>
      intro k m hinv hN
      have hinv0 := hinv
      obtain ⟨hk0, hk1, hk2, hk3⟩ := hinv
      have hlen := pf_ex_len (μ 42) off k.toNat
      have e41 : m 41 1 = μ 41 1 := by rw [hk2.2.2.2 41 1 (by omega), hl.2.2.2 41 1 (by omega)]
      have e42 : ∀ b : Int, m 42 b = μ 42 b := fun b => by rw [hk2.2.2.2 42 b (by omega), hl.2.2.2 42 b (by omega)]
      have hth := hk2.1
      have hlen2 : ((li ++ pf_ex (μ 42) off k.toNat).length : Int) ≤ 87 := by simp; omega
      refine gf_iload_n C dd_Wa_listExchanges_2 0 rfl ?_
      refine gf_aload_n C dd_Wa_listExchanges_3 2 rfl ?_
      refine gf_getI (z := 1) C gf_cl5 fl_Wa_36 dd_Wa_listExchanges_4 rfl rfl (show gf_is 81 41 0 5 5 by decide) (fun hv4 => ?_)
      refine gf_iload_n C dd_Wa_listExchanges_7 3 rfl ?_
      refine gf_isub C dd_Wa_listExchanges_8 ?_
      refine gf_icmp_ge 40 C dd_Wa_listExchanges_9 (by decide) (by omega) (by omega) (fun h9 => ?_) (fun h9 => ?_)
      · skip
        refine gf_vret C hQ dd_Wa_listExchanges_40 ?_
        have e3 : k.toNat = (μ 41 1 - off).toNat := by omega
        rw [← e3]
        exact ⟨hk2, hk3⟩
      · skip
        refine gf_aload_n C dd_Wa_listExchanges_12 2 rfl ?_
        refine gf_getA (r := 42) C gf_cl5 fl_Wa_31 dd_Wa_listExchanges_13 rfl (show gf_is 81 41 0 5 5 by decide) (by decide) (by decide) ?_
        refine gf_iload_n C dd_Wa_listExchanges_16 0 rfl ?_
        refine gf_iald C dd_Wa_listExchanges_17 (show gf_is 81 42 1 0 8 by decide) (by omega) (fun hv17 => ?_)
        refine gf_aload_n C dd_Wa_listExchanges_18 2 rfl ?_
        refine gf_getA (r := 42) C gf_cl5 fl_Wa_31 dd_Wa_listExchanges_19 rfl (show gf_is 81 41 0 5 5 by decide) (by decide) (by decide) ?_
        refine gf_iload_n C dd_Wa_listExchanges_22 0 rfl ?_
        refine gf_iload_n C dd_Wa_listExchanges_23 3 rfl ?_
        refine gf_iadd C dd_Wa_listExchanges_24 ?_
        refine gf_iald C dd_Wa_listExchanges_25 (show gf_is 81 42 1 0 8 by decide) (by omega) (fun hv25 => ?_)
        refine gf_icmp_eq 34 C dd_Wa_listExchanges_26 (by decide) (by omega) (by omega) (fun h26 => ?_) (fun h26 => ?_)
        · skip
          obtain ⟨x34, hx34⟩ : ∃ y : Int, y = k + 1 := ⟨_, rfl⟩
          refine gf_iinc (q := 0) (v := x34) (lv' := [(3, .int (gf_i x34)), (0, .ref (gf_ad E 53)), (1, .ref (gf_ad E 41)), (2, .int (gf_i off))]) C dd_Wa_listExchanges_34 rfl hx34 (by decide) rfl ?_
          refine gf_goto 2 C dd_Wa_listExchanges_37 (by decide) ?_
          refine gf_lsub [0, 1, 2, 3] rfl ?_
          exact ih2_1 x34 m (by
                  have e1 : (k + 1).toNat = k.toNat + 1 := by omega
                  have e2 : ((k.toNat : Nat) : Int) = k := by omega
                  first
                  | (refine ⟨by omega, by omega, ?_, ?_⟩
                     · rw [hx34, e1]
                       show gf_ls μ0 m (li ++ (pf_ex (μ 42) off k.toNat ++ (if μ 42 ((k.toNat : Nat) : Int) = μ 42 (((k.toNat : Nat) : Int) + off) then [] else [((k.toNat : Nat) : Int)])))
                       rw [e2, if_pos (by rw [← e42, ← e42]; exact h26), List.append_nil]
                       exact hk2
                     · exact hk3)
                  | (have ha := gf_ls_add hk2 hp31
                     refine ⟨by omega, by omega, ?_, fun b => by rw [ha.2 b]; exact hk3 b⟩
                     rw [hx34, e1]
                     show gf_ls μ0 m31 (li ++ (pf_ex (μ 42) off k.toNat ++ (if μ 42 ((k.toNat : Nat) : Int) = μ 42 (((k.toNat : Nat) : Int) + off) then [] else [((k.toNat : Nat) : Int)])))
                     rw [e2, if_neg (by rw [← e42, ← e42]; exact h26), ← List.append_assoc]
                     exact ha.1)) (by omega)
        · skip
          refine gf_aload_n C dd_Wa_listExchanges_29 1 rfl ?_
          refine gf_iload_n C dd_Wa_listExchanges_30 0 rfl ?_
          refine gf_callVv (st := []) (As := [.int (gf_i k)]) C wk_Wa_65 gf_cl4 (show gf_is 81 53 0 4 6 by decide) (ct_Wa_list (gf_xl X) E k m (by omega) (by omega)) rfl ⟨rfl, rfl, rfl, rfl⟩ (Nat.le_of_ble_eq_true rfl) rfl dd_Wa_listExchanges_31 (fun m31 hp31 => ?_)
          obtain ⟨x34, hx34⟩ : ∃ y : Int, y = k + 1 := ⟨_, rfl⟩
          refine gf_iinc (q := 0) (v := x34) (lv' := [(3, .int (gf_i x34)), (0, .ref (gf_ad E 53)), (1, .ref (gf_ad E 41)), (2, .int (gf_i off))]) C dd_Wa_listExchanges_34 rfl hx34 (by decide) rfl ?_
          refine gf_goto 2 C dd_Wa_listExchanges_37 (by decide) ?_
          refine gf_lsub [0, 1, 2, 3] rfl ?_
          exact ih2_1 x34 m31 (by
                  have e1 : (k + 1).toNat = k.toNat + 1 := by omega
                  have e2 : ((k.toNat : Nat) : Int) = k := by omega
                  first
                  | (refine ⟨by omega, by omega, ?_, ?_⟩
                     · rw [hx34, e1]
                       show gf_ls μ0 m (li ++ (pf_ex (μ 42) off k.toNat ++ (if μ 42 ((k.toNat : Nat) : Int) = μ 42 (((k.toNat : Nat) : Int) + off) then [] else [((k.toNat : Nat) : Int)])))
                       rw [e2, if_pos (by rw [← e42, ← e42]; exact h26), List.append_nil]
                       exact hk2
                     · exact hk3)
                  | (have ha := gf_ls_add hk2 hp31
                     refine ⟨by omega, by omega, ?_, fun b => by rw [ha.2 b]; exact hk3 b⟩
                     rw [hx34, e1]
                     show gf_ls μ0 m31 (li ++ (pf_ex (μ 42) off k.toNat ++ (if μ 42 ((k.toNat : Nat) : Int) = μ 42 (((k.toNat : Nat) : Int) + off) then [] else [((k.toNat : Nat) : Int)])))
                     rw [e2, if_neg (by rw [← e42, ← e42]; exact h26), ← List.append_assoc]
                     exact ha.1)) (by omega)
  refine gf_lsub [0, 1, 2, 3] rfl ?_
  exact L2_1 _ 0 μ (⟨by omega, by omega, by simpa [pf_ex] using hl, fun b => rfl⟩) (Nat.lt_succ_self _)

theorem dd_Wa_listThings_0 : decode cc_Wa_listThings 0 = .ok (.aload_n 0, 1) := by decide +kernel
theorem dd_Wa_listThings_1 : decode cc_Wa_listThings 1 = .ok (.iconst 0, 1) := by decide +kernel
theorem dd_Wa_listThings_2 : decode cc_Wa_listThings 2 = .ok (.putfield 46, 3) := by decide +kernel
theorem dd_Wa_listThings_5 : decode cc_Wa_listThings 5 = .ok (.iconst 0, 1) := by decide +kernel
theorem dd_Wa_listThings_6 : decode cc_Wa_listThings 6 = .ok (.istore_n 2, 1) := by decide +kernel
theorem dd_Wa_listThings_7 : decode cc_Wa_listThings 7 = .ok (.iload_n 2, 1) := by decide +kernel
theorem dd_Wa_listThings_8 : decode cc_Wa_listThings 8 = .ok (.aload_n 1, 1) := by decide +kernel
theorem dd_Wa_listThings_9 : decode cc_Wa_listThings 9 = .ok (.getfield 36, 3) := by decide +kernel
theorem dd_Wa_listThings_12 : decode cc_Wa_listThings 12 = .ok (.if_icmp .ge 43, 3) := by decide +kernel
theorem dd_Wa_listThings_15 : decode cc_Wa_listThings 15 = .ok (.iconst 0, 1) := by decide +kernel
theorem dd_Wa_listThings_16 : decode cc_Wa_listThings 16 = .ok (.istore_n 3, 1) := by decide +kernel
theorem dd_Wa_listThings_17 : decode cc_Wa_listThings 17 = .ok (.iload_n 3, 1) := by decide +kernel
theorem dd_Wa_listThings_18 : decode cc_Wa_listThings 18 = .ok (.bipush 10, 2) := by decide +kernel
theorem dd_Wa_listThings_20 : decode cc_Wa_listThings 20 = .ok (.if_icmp .ge 29, 3) := by decide +kernel
theorem dd_Wa_listThings_23 : decode cc_Wa_listThings 23 = .ok (.iload_n 3, 1) := by decide +kernel
theorem dd_Wa_listThings_24 : decode cc_Wa_listThings 24 = .ok (.aload_n 1, 1) := by decide +kernel
theorem dd_Wa_listThings_25 : decode cc_Wa_listThings 25 = .ok (.getfield 31, 3) := by decide +kernel
theorem dd_Wa_listThings_28 : decode cc_Wa_listThings 28 = .ok (.iload_n 2, 1) := by decide +kernel
theorem dd_Wa_listThings_29 : decode cc_Wa_listThings 29 = .ok (.iaload, 1) := by decide +kernel
theorem dd_Wa_listThings_30 : decode cc_Wa_listThings 30 = .ok (.if_icmp .eq 13, 3) := by decide +kernel
theorem dd_Wa_listThings_33 : decode cc_Wa_listThings 33 = .ok (.aload_n 0, 1) := by decide +kernel
theorem dd_Wa_listThings_34 : decode cc_Wa_listThings 34 = .ok (.iload_n 2, 1) := by decide +kernel
theorem dd_Wa_listThings_35 : decode cc_Wa_listThings 35 = .ok (.bipush 10, 2) := by decide +kernel
theorem dd_Wa_listThings_37 : decode cc_Wa_listThings 37 = .ok (.imul, 1) := by decide +kernel
theorem dd_Wa_listThings_38 : decode cc_Wa_listThings 38 = .ok (.iload_n 3, 1) := by decide +kernel
theorem dd_Wa_listThings_39 : decode cc_Wa_listThings 39 = .ok (.iadd, 1) := by decide +kernel
theorem dd_Wa_listThings_40 : decode cc_Wa_listThings 40 = .ok (.invokevirtual 65, 3) := by decide +kernel
theorem dd_Wa_listThings_43 : decode cc_Wa_listThings 43 = .ok (.iinc 3 1, 3) := by decide +kernel
theorem dd_Wa_listThings_46 : decode cc_Wa_listThings 46 = .ok (.goto (-29), 3) := by decide +kernel
theorem dd_Wa_listThings_49 : decode cc_Wa_listThings 49 = .ok (.iinc 2 1, 3) := by decide +kernel
theorem dd_Wa_listThings_52 : decode cc_Wa_listThings 52 = .ok (.goto (-45), 3) := by decide +kernel
theorem dd_Wa_listThings_55 : decode cc_Wa_listThings 55 = .ok (.aload_n 0, 1) := by decide +kernel
theorem dd_Wa_listThings_56 : decode cc_Wa_listThings 56 = .ok (.getfield 18, 3) := by decide +kernel
theorem dd_Wa_listThings_59 : decode cc_Wa_listThings 59 = .ok (.iconst 0, 1) := by decide +kernel
theorem dd_Wa_listThings_60 : decode cc_Wa_listThings 60 = .ok (.aload_n 0, 1) := by decide +kernel
theorem dd_Wa_listThings_61 : decode cc_Wa_listThings 61 = .ok (.getfield 46, 3) := by decide +kernel
theorem dd_Wa_listThings_64 : decode cc_Wa_listThings 64 = .ok (.iastore, 1) := by decide +kernel
theorem dd_Wa_listThings_65 : decode cc_Wa_listThings 65 = .ok (.aload_n 0, 1) := by decide +kernel
theorem dd_Wa_listThings_66 : decode cc_Wa_listThings 66 = .ok (.aload_n 1, 1) := by decide +kernel
theorem dd_Wa_listThings_67 : decode cc_Wa_listThings 67 = .ok (.iconst 1, 1) := by decide +kernel
theorem dd_Wa_listThings_68 : decode cc_Wa_listThings 68 = .ok (.invokevirtual 69, 3) := by decide +kernel
theorem dd_Wa_listThings_71 : decode cc_Wa_listThings 71 = .ok (.aload_n 0, 1) := by decide +kernel
theorem dd_Wa_listThings_72 : decode cc_Wa_listThings 72 = .ok (.getfield 18, 3) := by decide +kernel
theorem dd_Wa_listThings_75 : decode cc_Wa_listThings 75 = .ok (.iconst 1, 1) := by decide +kernel
theorem dd_Wa_listThings_76 : decode cc_Wa_listThings 76 = .ok (.aload_n 0, 1) := by decide +kernel
theorem dd_Wa_listThings_77 : decode cc_Wa_listThings 77 = .ok (.getfield 46, 3) := by decide +kernel
theorem dd_Wa_listThings_80 : decode cc_Wa_listThings 80 = .ok (.iastore, 1) := by decide +kernel
theorem dd_Wa_listThings_81 : decode cc_Wa_listThings 81 = .ok (.aload_n 0, 1) := by decide +kernel
theorem dd_Wa_listThings_82 : decode cc_Wa_listThings 82 = .ok (.aload_n 1, 1) := by decide +kernel
theorem dd_Wa_listThings_83 : decode cc_Wa_listThings 83 = .ok (.iconst 2, 1) := by decide +kernel
theorem dd_Wa_listThings_84 : decode cc_Wa_listThings 84 = .ok (.invokevirtual 69, 3) := by decide +kernel
theorem dd_Wa_listThings_87 : decode cc_Wa_listThings 87 = .ok (.aload_n 0, 1) := by decide +kernel
theorem dd_Wa_listThings_88 : decode cc_Wa_listThings 88 = .ok (.getfield 18, 3) := by decide +kernel
theorem dd_Wa_listThings_91 : decode cc_Wa_listThings 91 = .ok (.iconst 2, 1) := by decide +kernel
theorem dd_Wa_listThings_92 : decode cc_Wa_listThings 92 = .ok (.aload_n 0, 1) := by decide +kernel
theorem dd_Wa_listThings_93 : decode cc_Wa_listThings 93 = .ok (.getfield 46, 3) := by decide +kernel
theorem dd_Wa_listThings_96 : decode cc_Wa_listThings 96 = .ok (.iastore, 1) := by decide +kernel
theorem dd_Wa_listThings_97 : decode cc_Wa_listThings 97 = .ok (.return_, 1) := by decide +kernel
set_option maxRecDepth 100000 in
set_option maxHeartbeats 4000000 in
theorem ct_Wa_listThings (l : Launch) (E : gf_E) (μ : gf_M) (hs : 0 ≤ μ 41 1 ∧ μ 41 1 ≤ 8) (hF : gf_okF μ 42 (μ 41 1)) : gf_Mv l E yy_Wa_listThings cc_Wa_listThings 4 (gf_rm 2 44) 81 gf_ref 0 0 81 gf_ref μ [.ref (gf_ad E 53), .ref (gf_ad E 41)] (fun μ' => gf_ls μ μ' (pf_sl (μ 42) (μ 41 1).toNat ++ pf_ex (μ 42) 1 (μ 41 1 - 1).toNat ++ pf_ex (μ 42) 2 (μ 41 1 - 2).toNat) ∧ μ' 56 0 = ((pf_sl (μ 42) (μ 41 1).toNat).length : Int) ∧ μ' 56 1 = ((pf_sl (μ 42) (μ 41 1).toNat).length : Int) + ((pf_ex (μ 42) 1 (μ 41 1 - 1).toNat).length : Int) ∧ μ' 56 2 = ((pf_sl (μ 42) (μ 41 1).toNat).length : Int) + ((pf_ex (μ 42) 1 (μ 41 1 - 1).toNat).length : Int) + ((pf_ex (μ 42) 2 (μ 41 1 - 2).toNat).length : Int)) := by
  refine gf_mv (by decide +kernel) (Nat.le_of_ble_eq_true rfl) (by decide) (fun X Q hlx C hname hQ => ?_)
  subst hlx
  replace C : gf_C X E cc_Wa_listThings 4 "GuardFigures$Watch" (gf_rm 2 44) := C
  show gf_G X E Q 4 gf_φ μ 0 [(0, .ref (gf_ad E 53)), (1, .ref (gf_ad E 41))] []
  refine gf_aload_n C dd_Wa_listThings_0 0 rfl ?_
  refine gf_iconst C dd_Wa_listThings_1 ?_
  refine gf_putI (z := 2) C gf_cl4 fl_Wa_46 dd_Wa_listThings_2 rfl rfl rfl (by decide +kernel) (show gf_is 81 53 0 4 6 by decide) (by omega) ?_
  refine gf_nmM (fun m2 hm2 => ?_)
  refine gf_iconst C dd_Wa_listThings_5 ?_
  refine gf_istore_n (lv' := [(2, .int (gf_i 0)), (0, .ref (gf_ad E 53)), (1, .ref (gf_ad E 41))]) C dd_Wa_listThings_6 (by decide) rfl ?_
  have L7_1 : ∀ (N : Nat) (k : Int) (m : gf_M) , (0 ≤ k ∧ k ≤ μ 41 1 ∧ gf_ls μ m (pf_sl (μ 42) k.toNat)) → (8 - k).toNat < N → gf_G X E Q 4 gf_φ m 7 [(2, .int (gf_i k)), (0, .ref (gf_ad E 53)), (1, .ref (gf_ad E 41))] [] := by
    intro N
    induction N with
    | zero => intro k m hinv hN; exact absurd hN (Nat.not_lt_zero _)
    | succ N ih7_1 =>
      intro k m hinv hN
      have hinv0 := hinv
      obtain ⟨hk0, hk1, hk2⟩ := hinv
      have hlen := pf_sl_len (f := μ 42) k.toNat (fun j h0 h1 => hF j h0 (by omega))
      have e41 : m 41 1 = μ 41 1 := hk2.2.2.2 41 1 (by omega)
      have e2 : ((k.toNat : Nat) : Int) = k := by omega
      have hth := hk2.1
      refine gf_iload_n C dd_Wa_listThings_7 0 rfl ?_
      refine gf_aload_n C dd_Wa_listThings_8 2 rfl ?_
      refine gf_getI (z := 1) C gf_cl5 fl_Wa_36 dd_Wa_listThings_9 rfl rfl (show gf_is 81 41 0 5 5 by decide) (fun hv9 => ?_)
      refine gf_icmp_ge 55 C dd_Wa_listThings_12 (by decide) (by omega) (by omega) (fun h12 => ?_) (fun h12 => ?_)
      · skip
        have hkn : k.toNat = (μ 41 1).toNat := by omega
        refine gf_aload_n C dd_Wa_listThings_55 1 rfl ?_
        refine gf_getA (r := 56) C gf_cl4 fl_Wa_18 dd_Wa_listThings_56 rfl (show gf_is 81 53 0 4 6 by decide) (by decide) (by decide) ?_
        refine gf_iconst C dd_Wa_listThings_59 ?_
        refine gf_aload_n C dd_Wa_listThings_60 1 rfl ?_
        refine gf_getI (z := 2) C gf_cl4 fl_Wa_46 dd_Wa_listThings_61 rfl rfl (show gf_is 81 53 0 4 6 by decide) (fun hv61 => ?_)
        refine gf_iast C dd_Wa_listThings_64 (show gf_is 81 56 1 0 3 by decide) (by omega) (by omega) ?_
        refine gf_nmM (fun m64 hm64 => ?_)
        have hl64 := gf_ls_end hk2 hm64
        rw [hkn] at hl64
        have e64 : m64 56 0 = ((pf_sl (μ 42) (μ 41 1).toNat).length : Int) := by rw [hm64, gf_up_s, hth, hkn]
        have f1 : m64 41 1 = μ 41 1 := hl64.2.2.2 41 1 (by omega)
        have f2 : m64 42 = μ 42 := funext fun b => hl64.2.2.2 42 b (by omega)
        rw [hkn] at hlen
        refine gf_aload_n C dd_Wa_listThings_65 1 rfl ?_
        refine gf_aload_n C dd_Wa_listThings_66 2 rfl ?_
        refine gf_iconst C dd_Wa_listThings_67 ?_
        refine gf_callVv (st := []) (As := [.ref (gf_ad E 41), .int (gf_i 1)]) C wk_Wa_69 gf_cl4 (show gf_is 81 53 0 4 6 by decide) (ct_Wa_listExchanges (gf_xl X) E 1 m64 (μ) ((pf_sl (μ 42) (μ 41 1).toNat)) (by omega) (hl64) (by omega) (by omega)) rfl ⟨rfl, rfl, rfl, rfl⟩ (Nat.le_of_ble_eq_true rfl) rfl dd_Wa_listThings_68 (fun m68 hp68 => ?_)
        obtain ⟨hl68, g68⟩ := hp68
        rw [f1, f2] at hl68
        have t68 := hl68.1
        have q68 := pf_ex_len (μ 42) 1 (μ 41 1 - 1).toNat
        refine gf_aload_n C dd_Wa_listThings_71 1 rfl ?_
        refine gf_getA (r := 56) C gf_cl4 fl_Wa_18 dd_Wa_listThings_72 rfl (show gf_is 81 53 0 4 6 by decide) (by decide) (by decide) ?_
        refine gf_iconst C dd_Wa_listThings_75 ?_
        refine gf_aload_n C dd_Wa_listThings_76 1 rfl ?_
        refine gf_getI (z := 2) C gf_cl4 fl_Wa_46 dd_Wa_listThings_77 rfl rfl (show gf_is 81 53 0 4 6 by decide) (fun hv77 => ?_)
        refine gf_iast C dd_Wa_listThings_80 (show gf_is 81 56 1 0 3 by decide) (by omega) (by simp at t68; omega) ?_
        refine gf_nmM (fun m80 hm80 => ?_)
        have hl80 := gf_ls_end hl68 hm80
        have e80 : m80 56 1 = ((pf_sl (μ 42) (μ 41 1).toNat).length : Int) + ((pf_ex (μ 42) 1 (μ 41 1 - 1).toNat).length : Int) := by rw [hm80, gf_up_s, t68]; simp
        have e800 : m80 56 0 = ((pf_sl (μ 42) (μ 41 1).toNat).length : Int) := by rw [hm80, gf_up_j (by decide), g68, e64]
        have f3 : m80 41 1 = μ 41 1 := hl80.2.2.2 41 1 (by omega)
        have f4 : m80 42 = μ 42 := funext fun b => hl80.2.2.2 42 b (by omega)
        refine gf_aload_n C dd_Wa_listThings_81 1 rfl ?_
        refine gf_aload_n C dd_Wa_listThings_82 2 rfl ?_
        refine gf_iconst C dd_Wa_listThings_83 ?_
        refine gf_callVv (st := []) (As := [.ref (gf_ad E 41), .int (gf_i 2)]) C wk_Wa_69 gf_cl4 (show gf_is 81 53 0 4 6 by decide) (ct_Wa_listExchanges (gf_xl X) E 2 m80 (μ) ((pf_sl (μ 42) (μ 41 1).toNat ++ pf_ex (μ 42) 1 (μ 41 1 - 1).toNat)) (by omega) (hl80) (by rw [List.length_append]; omega) (by omega)) rfl ⟨rfl, rfl, rfl, rfl⟩ (Nat.le_of_ble_eq_true rfl) rfl dd_Wa_listThings_84 (fun m84 hp84 => ?_)
        obtain ⟨hl84, g84⟩ := hp84
        rw [f3, f4] at hl84
        have t84 := hl84.1
        refine gf_aload_n C dd_Wa_listThings_87 1 rfl ?_
        refine gf_getA (r := 56) C gf_cl4 fl_Wa_18 dd_Wa_listThings_88 rfl (show gf_is 81 53 0 4 6 by decide) (by decide) (by decide) ?_
        refine gf_iconst C dd_Wa_listThings_91 ?_
        refine gf_aload_n C dd_Wa_listThings_92 1 rfl ?_
        refine gf_getI (z := 2) C gf_cl4 fl_Wa_46 dd_Wa_listThings_93 rfl rfl (show gf_is 81 53 0 4 6 by decide) (fun hv93 => ?_)
        refine gf_iast C dd_Wa_listThings_96 (show gf_is 81 56 1 0 3 by decide) (by omega) (by have q := pf_ex_len (μ 42) 2 (μ 41 1 - 2).toNat; simp at t84; omega) ?_
        refine gf_nmM (fun m96 hm96 => ?_)
        refine gf_vret C hQ dd_Wa_listThings_97 ?_
        refine ⟨gf_ls_end hl84 hm96, ?_, ?_, ?_⟩
        · rw [hm96, gf_up_j (by decide), g84, e800]
        · rw [hm96, gf_up_j (by decide), g84, e80]
        · rw [hm96, gf_up_s, t84]; simp; omega
      · skip
        refine gf_iconst C dd_Wa_listThings_15 ?_
        refine gf_istore_n (lv' := [(3, .int (gf_i 0)), (2, .int (gf_i k)), (0, .ref (gf_ad E 53)), (1, .ref (gf_ad E 41))]) C dd_Wa_listThings_16 (by decide) rfl ?_
        have L17_2 : ∀ (N : Nat) (v : Int) (m' : gf_M) , (0 ≤ v ∧ v ≤ 10 ∧ gf_ls μ m' (pf_sl (μ 42) k.toNat ++ pf_slr (μ 42 k) k v.toNat)) → (10 - v).toNat < N → gf_G X E Q 4 gf_φ m' 17 [(3, .int (gf_i v)), (2, .int (gf_i k)), (0, .ref (gf_ad E 53)), (1, .ref (gf_ad E 41))] [] := by
          intro N
          induction N with
          | zero => intro v m' hinv hN; exact absurd hN (Nat.not_lt_zero _)
          | succ N ih17_2 =>
            intro v m' hinv hN
            have hinv0 := hinv
            obtain ⟨hv0, hv1, hv2⟩ := hinv
            have hlr := (pf_slr_len (μ 42 k) k v.toNat).1
            have hth' := hv2.1
            have e42 : m' 42 k = μ 42 k := hv2.2.2.2 42 k (by omega)
            have hlen2 : ((pf_sl (μ 42) k.toNat ++ pf_slr (μ 42 k) k v.toNat).length : Int) ≤ 87 := by simp; omega
            have e3 : ((v.toNat : Nat) : Int) = v := by omega
            refine gf_iload_n C dd_Wa_listThings_17 0 rfl ?_
            refine gf_bipush C dd_Wa_listThings_18 (by decide +kernel) ?_
            refine gf_icmp_ge 49 C dd_Wa_listThings_20 (by decide) (by omega) (by omega) (fun h20 => ?_) (fun h20 => ?_)
            · skip
              obtain ⟨x49, hx49⟩ : ∃ y : Int, y = k + 1 := ⟨_, rfl⟩
              refine gf_iinc (q := 1) (v := x49) (lv' := [(2, .int (gf_i x49)), (3, .int (gf_i v)), (0, .ref (gf_ad E 53)), (1, .ref (gf_ad E 41))]) C dd_Wa_listThings_49 rfl hx49 (by decide) rfl ?_
              refine gf_goto 7 C dd_Wa_listThings_52 (by decide) ?_
              refine gf_lsub [0, 2, 3] rfl ?_
              exact ih7_1 x49 m' (by
                        refine ⟨by omega, by omega, ?_⟩
                        rw [hx49, show (k + 1).toNat = k.toNat + 1 by omega]
                        show gf_ls μ m' (pf_sl (μ 42) k.toNat ++ pf_slr (μ 42 ((k.toNat : Nat) : Int)) ((k.toNat : Nat) : Int) 10)
                        rw [e2, show 10 = v.toNat by omega]
                        exact hv2) (by omega)
            · skip
              refine gf_iload_n C dd_Wa_listThings_23 0 rfl ?_
              refine gf_aload_n C dd_Wa_listThings_24 3 rfl ?_
              refine gf_getA (r := 42) C gf_cl5 fl_Wa_31 dd_Wa_listThings_25 rfl (show gf_is 81 41 0 5 5 by decide) (by decide) (by decide) ?_
              refine gf_iload_n C dd_Wa_listThings_28 1 rfl ?_
              have hfk := hF k (by omega) (by omega)
              refine gf_iald C dd_Wa_listThings_29 (show gf_is 81 42 1 0 8 by decide) (by omega) (fun hv29 => ?_)
              refine gf_icmp_eq 43 C dd_Wa_listThings_30 (by decide) (by omega) (by omega) (fun h30 => ?_) (fun h30 => ?_)
              · skip
                obtain ⟨x43, hx43⟩ : ∃ y : Int, y = v + 1 := ⟨_, rfl⟩
                refine gf_iinc (q := 0) (v := x43) (lv' := [(3, .int (gf_i x43)), (2, .int (gf_i k)), (0, .ref (gf_ad E 53)), (1, .ref (gf_ad E 41))]) C dd_Wa_listThings_43 rfl hx43 (by decide) rfl ?_
                refine gf_goto 17 C dd_Wa_listThings_46 (by decide) ?_
                refine gf_lsub [0, 1, 2, 3] rfl ?_
                exact ih17_2 x43 m' (by
                            have e1 : (v + 1).toNat = v.toNat + 1 := by omega
                            first
                            | (refine ⟨by omega, by omega, ?_⟩
                               rw [hx43, e1]
                               show gf_ls μ m' (_ ++ (pf_slr (μ 42 k) k v.toNat ++ (if ((v.toNat : Nat) : Int) = μ 42 k then [] else [k * 10 + ((v.toNat : Nat) : Int)])))
                               rw [e3, if_pos (by rw [← e42]; exact h30), List.append_nil]
                               exact hv2)
                            | (have ha := gf_ls_add hv2 hp40
                               refine ⟨by omega, by omega, ?_⟩
                               rw [hx43, e1]
                               show gf_ls μ m40 (_ ++ (pf_slr (μ 42 k) k v.toNat ++ (if ((v.toNat : Nat) : Int) = μ 42 k then [] else [k * 10 + ((v.toNat : Nat) : Int)])))
                               rw [e3, if_neg (by rw [← e42]; exact h30), ← List.append_assoc]
                               exact ha.1)) (by omega)
              · skip
                refine gf_aload_n C dd_Wa_listThings_33 2 rfl ?_
                refine gf_iload_n C dd_Wa_listThings_34 1 rfl ?_
                refine gf_bipush C dd_Wa_listThings_35 (by decide +kernel) ?_
                refine gf_imul C dd_Wa_listThings_37 ?_
                refine gf_iload_n C dd_Wa_listThings_38 0 rfl ?_
                refine gf_iadd C dd_Wa_listThings_39 ?_
                refine gf_callVv (st := []) (As := [.int (gf_i ((k * 10) + v))]) C wk_Wa_65 gf_cl4 (show gf_is 81 53 0 4 6 by decide) (ct_Wa_list (gf_xl X) E ((k * 10) + v) m' (by omega) (by omega)) rfl ⟨rfl, rfl, rfl, rfl⟩ (Nat.le_of_ble_eq_true rfl) rfl dd_Wa_listThings_40 (fun m40 hp40 => ?_)
                obtain ⟨x43, hx43⟩ : ∃ y : Int, y = v + 1 := ⟨_, rfl⟩
                refine gf_iinc (q := 0) (v := x43) (lv' := [(3, .int (gf_i x43)), (2, .int (gf_i k)), (0, .ref (gf_ad E 53)), (1, .ref (gf_ad E 41))]) C dd_Wa_listThings_43 rfl hx43 (by decide) rfl ?_
                refine gf_goto 17 C dd_Wa_listThings_46 (by decide) ?_
                refine gf_lsub [0, 1, 2, 3] rfl ?_
                exact ih17_2 x43 m40 (by
                            have e1 : (v + 1).toNat = v.toNat + 1 := by omega
                            first
                            | (refine ⟨by omega, by omega, ?_⟩
                               rw [hx43, e1]
                               show gf_ls μ m' (_ ++ (pf_slr (μ 42 k) k v.toNat ++ (if ((v.toNat : Nat) : Int) = μ 42 k then [] else [k * 10 + ((v.toNat : Nat) : Int)])))
                               rw [e3, if_pos (by rw [← e42]; exact h30), List.append_nil]
                               exact hv2)
                            | (have ha := gf_ls_add hv2 hp40
                               refine ⟨by omega, by omega, ?_⟩
                               rw [hx43, e1]
                               show gf_ls μ m40 (_ ++ (pf_slr (μ 42 k) k v.toNat ++ (if ((v.toNat : Nat) : Int) = μ 42 k then [] else [k * 10 + ((v.toNat : Nat) : Int)])))
                               rw [e3, if_neg (by rw [← e42]; exact h30), ← List.append_assoc]
                               exact ha.1)) (by omega)
        refine gf_lsub [0, 1, 2, 3] rfl ?_
        exact L17_2 _ 0 m (⟨by omega, by omega, by simpa [pf_slr] using hk2⟩) (Nat.lt_succ_self _)
  refine gf_lsub [0, 1, 2] rfl ?_
  exact L7_1 _ 0 m2 (⟨by omega, by omega, by rw [hm2]; exact gf_up_s, fun i x h => by simp [pf_sl] at h, fun t h0 h1 => by simp [pf_sl] at h1; omega, fun a b h => by rw [hm2]; exact gf_up_k (by omega)⟩) (Nat.lt_succ_self _)
end
section
/-! which guards notice -/
/-- the copy with a slip, with two figures that changed places -/
def pf_cps (f : Int → Int) (m : Int) : Int → Int := fun j => if j = m / 10 then m % 10 else f j
def pf_cpx (f : Int → Int) (k off : Int) : Int → Int := fun j => if j = k + off then f k else if j = k then f (k + off) else f j
/-- all things: mark and copy -/
def pf_T (f : Int → Int) (n : Int) : List (Int × (Int → Int)) := (pf_sl f n.toNat).map (fun m => (m, pf_cps f m)) ++ (pf_ex f 1 (n - 1).toNat).map (fun k => (k, pf_cpx f k 1)) ++ (pf_ex f 2 (n - 2).toNat).map (fun k => (k, pf_cpx f k 2))
theorem pf_T_fst (f : Int → Int) (n : Int) : (pf_T f n).map (fun q => q.1) = pf_sl f n.toNat ++ pf_ex f 1 (n - 1).toNat ++ pf_ex f 2 (n - 2).toNat := by
  simp [pf_T, Function.comp_def]
theorem pf_T_len (f : Int → Int) (n : Int) : (pf_T f n).length = (pf_sl f n.toNat).length + (pf_ex f 1 (n - 1).toNat).length + (pf_ex f 2 (n - 2).toNat).length := by simp only [pf_T, List.length_append, List.length_map]
theorem pf_T_lst {f : Int → Int} {n : Int} {m : gf_M} (h : gf_lst m 54 (pf_sl f n.toNat ++ pf_ex f 1 (n - 1).toNat ++ pf_ex f 2 (n - 2).toNat)) {t : Nat} {q : Int × (Int → Int)} (hq : (pf_T f n)[t]? = some q) : m 54 t = q.1 := by
  refine h t q.1 ?_
  rw [← pf_T_fst, List.getElem?_map, hq]
  rfl
/-- what kind of thing the t-th one is, by the ends of the sorts -/
theorem pf_T_at {f : Int → Int} {n : Int} {t : Nat} {q : Int × (Int → Int)} (hq : (pf_T f n)[t]? = some q) :
    (t < (pf_sl f n.toNat).length ∧ q.1 ∈ pf_sl f n.toNat ∧ q.2 = pf_cps f q.1) ∨ ((pf_sl f n.toNat).length ≤ t ∧ t < (pf_sl f n.toNat).length + (pf_ex f 1 (n - 1).toNat).length ∧ q.1 ∈ pf_ex f 1 (n - 1).toNat ∧ q.2 = pf_cpx f q.1 1) ∨ ((pf_sl f n.toNat).length + (pf_ex f 1 (n - 1).toNat).length ≤ t ∧ q.1 ∈ pf_ex f 2 (n - 2).toNat ∧ q.2 = pf_cpx f q.1 2) := by
  unfold pf_T at hq
  by_cases h1 : t < (pf_sl f n.toNat).length
  · left
    rw [List.append_assoc, List.getElem?_append_left (by simpa using h1), List.getElem?_map] at hq
    cases hz : (pf_sl f n.toNat)[t]? with
    | none => rw [hz] at hq; cases hq
    | some z => rw [hz] at hq; cases hq; exact ⟨h1, List.mem_of_getElem? hz, rfl⟩
  · right
    rw [List.append_assoc, List.getElem?_append_right (by simpa using Nat.not_lt.mp h1)] at hq
    by_cases h2 : t < (pf_sl f n.toNat).length + (pf_ex f 1 (n - 1).toNat).length
    · left
      rw [List.getElem?_append_left (by simp only [List.length_map]; omega), List.getElem?_map] at hq
      cases hz : (pf_ex f 1 (n - 1).toNat)[t - ((pf_sl f n.toNat).map (fun m => (m, pf_cps f m))).length]? with
      | none => rw [hz] at hq; cases hq
      | some z => rw [hz] at hq; cases hq; exact ⟨by omega, h2, List.mem_of_getElem? hz, rfl⟩
    · right
      rw [List.getElem?_append_right (by simp only [List.length_map]; omega), List.getElem?_map] at hq
      cases hz : (pf_ex f 2 (n - 2).toNat)[t - ((pf_sl f n.toNat).map (fun m => (m, pf_cps f m))).length - ((pf_ex f 1 (n - 1).toNat).map (fun k => (k, pf_cpx f k 1))).length]? with
      | none => rw [hz] at hq; cases hq
      | some z => rw [hz] at hq; cases hq; exact ⟨by omega, List.mem_of_getElem? hz, rfl⟩
theorem pf_slr_mem {x k : Int} : ∀ {v : Nat} {y : Int}, y ∈ pf_slr x k v → ∃ j : Int, 0 ≤ j ∧ j < v ∧ j ≠ x ∧ y = k * 10 + j
  | 0, y, h => by simp [pf_slr] at h
  | v + 1, y, h => by
    unfold pf_slr at h
    rcases List.mem_append.mp h with h | h
    · obtain ⟨j, h0, h1, h2, h3⟩ := pf_slr_mem h
      exact ⟨j, h0, by omega, h2, h3⟩
    · by_cases e : (v : Int) = x
      · rw [if_pos e] at h; simp at h
      · rw [if_neg e] at h; simp at h; exact ⟨v, by omega, by omega, e, h⟩
theorem pf_sl_mem {f : Int → Int} : ∀ {k : Nat} {y : Int}, y ∈ pf_sl f k → ∃ i j : Int, 0 ≤ i ∧ i < k ∧ 0 ≤ j ∧ j < 10 ∧ j ≠ f i ∧ y = i * 10 + j
  | 0, y, h => by simp [pf_sl] at h
  | k + 1, y, h => by
    unfold pf_sl at h
    rcases List.mem_append.mp h with h | h
    · obtain ⟨i, j, h0, h1, h2⟩ := pf_sl_mem h
      exact ⟨i, j, h0, by omega, h2⟩
    · obtain ⟨j, h0, h1, h2, h3⟩ := pf_slr_mem h
      exact ⟨k, j, by omega, by omega, h0, by omega, h2, h3⟩
theorem pf_ex_mem {f : Int → Int} {off : Int} : ∀ {k : Nat} {y : Int}, y ∈ pf_ex f off k → 0 ≤ y ∧ y < k ∧ f y ≠ f (y + off)
  | 0, y, h => by simp [pf_ex] at h
  | k + 1, y, h => by
    unfold pf_ex at h
    rcases List.mem_append.mp h with h | h
    · have := pf_ex_mem h
      exact ⟨this.1, by omega, this.2.2⟩
    · by_cases e : f k = f (k + off)
      · rw [if_pos e] at h; simp at h
      · rw [if_neg e] at h; simp at h; subst h; exact ⟨by omega, by omega, e⟩
/-- bits from a on, c of them -/
def pf_nb (P : Nat → Bool) (a : Nat) : Nat → Nat
  | 0 => 0
  | c + 1 => if P (a + c) = true then pf_nb P a c ||| 2 ^ (a + c) else pf_nb P a c
theorem pf_nb_bit (P : Nat → Bool) (a : Nat) : ∀ (c i : Nat), (pf_nb P a c).testBit i = (decide (a ≤ i ∧ i < a + c) && P i)
  | 0, i => by
    have : decide (a ≤ i ∧ i < a + 0) = false := by simp
    show (0 : Nat).testBit i = _
    rw [this]
    simp
  | c + 1, i => by
    have ih := pf_nb_bit P a c i
    unfold pf_nb
    by_cases hp : P (a + c) = true
    · rw [if_pos hp, Nat.testBit_or, ih, Nat.testBit_two_pow]
      by_cases e : a + c = i
      · subst e; simp [hp]
      · have e2 : decide (a + c = i) = false := by simp [e]
        rw [e2, Bool.or_false]
        congr 1
        have : (a ≤ i ∧ i < a + c) ↔ (a ≤ i ∧ i < a + (c + 1)) := by omega
        simp only [this]
    · rw [if_neg hp, ih]
      by_cases e : a + c = i
      · subst e
        have : P (a + c) = false := by simpa using hp
        simp [this]
      · congr 1
        have : (a ≤ i ∧ i < a + c) ↔ (a ≤ i ∧ i < a + (c + 1)) := by omega
        simp only [this]
theorem pf_nb_lt (P : Nat → Bool) (a : Nat) (c : Nat) : pf_nb P a c < 2 ^ (a + c) := by
  induction c with
  | zero => simp [pf_nb]; exact Nat.pow_pos (by decide)
  | succ c ih =>
    unfold pf_nb
    have h2 : 2 ^ (a + (c + 1)) = 2 ^ (a + c) * 2 := by rw [← Nat.add_assoc, Nat.pow_succ]
    split
    · exact Nat.or_lt_two_pow (by omega) (by rw [h2]; have : 0 < 2 ^ (a + c) := Nat.pow_pos (by decide); omega)
    · omega
theorem pf_pow7 {i : Nat} (h : i ≤ 7) : 2 ^ i ≤ 128 := by
  have : i = 0 ∨ i = 1 ∨ i = 2 ∨ i = 3 ∨ i = 4 ∨ i = 5 ∨ i = 6 ∨ i = 7 := by omega
  rcases this with rfl | rfl | rfl | rfl | rfl | rfl | rfl | rfl <;> decide
/-- the bit of one guard among those that noticed -/
theorem pf_and_bit (x i : Nat) : (x &&& 2 ^ i = 0) ↔ x.testBit i = false := by
  constructor
  · intro h
    have := congrArg (fun z => z.testBit i) h
    simpa [Nat.testBit_and, Nat.testBit_two_pow] using this
  · intro h
    apply Nat.eq_of_testBit_eq
    intro j
    simp only [Nat.testBit_and, Nat.testBit_two_pow, Nat.zero_testBit]
    by_cases e : i = j
    · subst e; simp [h]
    · simp [e]
/-- whether guard g notices a copy -/
def pf_no (μ : gf_M) (f : Int → Int) (n : Int) (c : Int → Int) (i : Nat) : Bool := decide (pf_reck (μ (24 + i) 0) (μ (24 + i) 1) (μ (24 + i) 2) c n ≠ pf_reck (μ (24 + i) 0) (μ (24 + i) 1) (μ (24 + i) 2) f n)
end
section
/-! what the watch holds behind a look for the guards a .. b - 1 -/
def gf_lk (μ0 m : gf_M) (a b : Nat) : Prop := m 53 2 = ((pf_T (μ0 42) (μ0 41 1)).length : Int) ∧ (∀ (t : Nat) (q : Int × (Int → Int)), (pf_T (μ0 42) (μ0 41 1))[t]? = some q → m 54 t = q.1 ∧ m 55 t = ((pf_nb (pf_no μ0 (μ0 42) (μ0 41 1) q.2) a (b - a) : Nat) : Int)) ∧ m 56 0 = ((pf_sl (μ0 42) (μ0 41 1).toNat).length : Int) ∧ m 56 1 = ((pf_sl (μ0 42) (μ0 41 1).toNat).length : Int) + ((pf_ex (μ0 42) 1 (μ0 41 1 - 1).toNat).length : Int) ∧ m 56 2 = ((pf_sl (μ0 42) (μ0 41 1).toNat).length : Int) + ((pf_ex (μ0 42) 1 (μ0 41 1 - 1).toNat).length : Int) + ((pf_ex (μ0 42) 2 (μ0 41 1 - 2).toNat).length : Int) ∧ ∀ x y : Int, ¬ (53 ≤ x ∧ x ≤ 58) → m x y = μ0 x y
theorem pf_T_88 {f : Int → Int} {n : Int} (hn : 0 ≤ n ∧ n ≤ 8) (hF : ∀ j : Int, 0 ≤ j → j < n → 0 ≤ f j ∧ f j ≤ 9) : (pf_T f n).length ≤ 85 := by
  have h1 := pf_sl_len (f := f) n.toNat (fun j h0 h1 => hF j h0 (by omega))
  have h2 := pf_ex_len f 1 (n - 1).toNat
  have h3 := pf_ex_len f 2 (n - 2).toNat
  have h4 := pf_T_len f n
  omega
theorem dd_Wa_isNoticed_0 : decode cc_Wa_isNoticed 0 = .ok (.aload_n 0, 1) := by decide +kernel
theorem dd_Wa_isNoticed_1 : decode cc_Wa_isNoticed 1 = .ok (.getfield 15, 3) := by decide +kernel
theorem dd_Wa_isNoticed_4 : decode cc_Wa_isNoticed 4 = .ok (.iload_n 1, 1) := by decide +kernel
theorem dd_Wa_isNoticed_5 : decode cc_Wa_isNoticed 5 = .ok (.iaload, 1) := by decide +kernel
theorem dd_Wa_isNoticed_6 : decode cc_Wa_isNoticed 6 = .ok (.iload_n 2, 1) := by decide +kernel
theorem dd_Wa_isNoticed_7 : decode cc_Wa_isNoticed 7 = .ok (.iand, 1) := by decide +kernel
theorem dd_Wa_isNoticed_8 : decode cc_Wa_isNoticed 8 = .ok (.ifCond .eq 7, 3) := by decide +kernel
theorem dd_Wa_isNoticed_11 : decode cc_Wa_isNoticed 11 = .ok (.iconst 1, 1) := by decide +kernel
theorem dd_Wa_isNoticed_12 : decode cc_Wa_isNoticed 12 = .ok (.goto 4, 3) := by decide +kernel
theorem dd_Wa_isNoticed_15 : decode cc_Wa_isNoticed 15 = .ok (.iconst 0, 1) := by decide +kernel
theorem dd_Wa_isNoticed_16 : decode cc_Wa_isNoticed 16 = .ok (.ireturn, 1) := by decide +kernel
set_option maxRecDepth 100000 in
set_option maxHeartbeats 4000000 in
theorem ct_Wa_isNoticed (l : Launch) (E : gf_E) (t s : Int) (μ : gf_M) (ht : 0 ≤ t ∧ t < 88) (hs : 0 ≤ s) (hn : 0 ≤ μ 55 t) : gf_Mi l E yy_Wa_isNoticed cc_Wa_isNoticed 3 .boolean (gf_rm 0 0) 81 gf_ref μ [.ref (gf_ad E 53), .int (gf_i t), .int (gf_i s)] (fun r μ' => ((gf_and (μ 55 t) s = 0 → r = 0) ∧ (gf_and (μ 55 t) s ≠ 0 → r = 1)) ∧ μ' = μ) := by
  refine gf_mi (by decide +kernel) (Nat.le_of_ble_eq_true rfl) (by decide) (fun X Q hlx C hQ => ?_)
  subst hlx
  replace C : gf_C X E cc_Wa_isNoticed 3 "GuardFigures$Watch" (gf_rm 0 0) := C
  show gf_G X E Q 3 gf_φ μ 0 [(0, .ref (gf_ad E 53)), (1, .int (gf_i t)), (2, .int (gf_i s))] []
  refine gf_aload_n C dd_Wa_isNoticed_0 0 rfl ?_
  refine gf_getA (r := 55) C gf_cl4 fl_Wa_15 dd_Wa_isNoticed_1 rfl (show gf_is 81 53 0 4 6 by decide) (by decide) (by decide) ?_
  refine gf_iload_n C dd_Wa_isNoticed_4 1 rfl ?_
  refine gf_iald C dd_Wa_isNoticed_5 (show gf_is 81 55 1 0 88 by decide) (by omega) (fun hv5 => ?_)
  refine gf_iload_n C dd_Wa_isNoticed_6 2 rfl ?_
  refine gf_iand C dd_Wa_isNoticed_7 (by omega) ?_
  have hab : gf_and (μ 55 t) s ≤ μ 55 t := by unfold gf_and; have := Nat.and_le_left (n := (μ 55 t).toNat) (m := s.toNat); omega
  have hab0 : 0 ≤ gf_and (μ 55 t) s := by unfold gf_and; omega
  refine gf_if_eq 15 C dd_Wa_isNoticed_8 (by decide) (by omega) (fun h8 => ?_) (fun h8 => ?_)
  · skip
    refine gf_iconst C dd_Wa_isNoticed_15 ?_
    refine gf_zret C hQ dd_Wa_isNoticed_16 (by omega) ?_
    exact ⟨⟨by omega, by omega⟩, rfl⟩
  · skip
    refine gf_iconst C dd_Wa_isNoticed_11 ?_
    refine gf_goto 16 C dd_Wa_isNoticed_12 (by decide) ?_
    refine gf_zret C hQ dd_Wa_isNoticed_16 (by omega) ?_
    exact ⟨⟨by omega, by omega⟩, rfl⟩

theorem dd_Wa_startOf_0 : decode cc_Wa_startOf 0 = .ok (.iload_n 1, 1) := by decide +kernel
theorem dd_Wa_startOf_1 : decode cc_Wa_startOf 1 = .ok (.ifCond .ne 7, 3) := by decide +kernel
theorem dd_Wa_startOf_4 : decode cc_Wa_startOf 4 = .ok (.iconst 0, 1) := by decide +kernel
theorem dd_Wa_startOf_5 : decode cc_Wa_startOf 5 = .ok (.goto 11, 3) := by decide +kernel
theorem dd_Wa_startOf_8 : decode cc_Wa_startOf 8 = .ok (.aload_n 0, 1) := by decide +kernel
theorem dd_Wa_startOf_9 : decode cc_Wa_startOf 9 = .ok (.getfield 18, 3) := by decide +kernel
theorem dd_Wa_startOf_12 : decode cc_Wa_startOf 12 = .ok (.iload_n 1, 1) := by decide +kernel
theorem dd_Wa_startOf_13 : decode cc_Wa_startOf 13 = .ok (.iconst 1, 1) := by decide +kernel
theorem dd_Wa_startOf_14 : decode cc_Wa_startOf 14 = .ok (.isub, 1) := by decide +kernel
theorem dd_Wa_startOf_15 : decode cc_Wa_startOf 15 = .ok (.iaload, 1) := by decide +kernel
theorem dd_Wa_startOf_16 : decode cc_Wa_startOf 16 = .ok (.ireturn, 1) := by decide +kernel
set_option maxRecDepth 100000 in
set_option maxHeartbeats 4000000 in
theorem ct_Wa_startOf (l : Launch) (E : gf_E) (s : Int) (μ : gf_M) (hs : 0 ≤ s ∧ s ≤ 2) : gf_Mi l E yy_Wa_startOf cc_Wa_startOf 2 .int (gf_rm 0 0) 81 gf_ref μ [.ref (gf_ad E 53), .int (gf_i s)] (fun r μ' => ((s = 0 → r = 0) ∧ (s ≠ 0 → r = μ 56 (s - 1))) ∧ μ' = μ) := by
  refine gf_mi (by decide +kernel) (Nat.le_of_ble_eq_true rfl) (by decide) (fun X Q hlx C hQ => ?_)
  subst hlx
  replace C : gf_C X E cc_Wa_startOf 2 "GuardFigures$Watch" (gf_rm 0 0) := C
  show gf_G X E Q 2 gf_φ μ 0 [(0, .ref (gf_ad E 53)), (1, .int (gf_i s))] []
  refine gf_iload_n C dd_Wa_startOf_0 1 rfl ?_
  refine gf_if_ne 8 C dd_Wa_startOf_1 (by decide) (by omega) (fun h1 => ?_) (fun h1 => ?_)
  · skip
    refine gf_aload_n C dd_Wa_startOf_8 0 rfl ?_
    refine gf_getA (r := 56) C gf_cl4 fl_Wa_18 dd_Wa_startOf_9 rfl (show gf_is 81 53 0 4 6 by decide) (by decide) (by decide) ?_
    refine gf_iload_n C dd_Wa_startOf_12 1 rfl ?_
    refine gf_iconst C dd_Wa_startOf_13 ?_
    refine gf_isub C dd_Wa_startOf_14 ?_
    refine gf_iald C dd_Wa_startOf_15 (show gf_is 81 56 1 0 3 by decide) (by omega) (fun hv15 => ?_)
    refine gf_iret C hQ dd_Wa_startOf_16 (by omega) ?_
    exact ⟨⟨by first | omega | (intro h; omega), by first | omega | (intro _; rfl)⟩, rfl⟩
  · skip
    refine gf_iconst C dd_Wa_startOf_4 ?_
    refine gf_goto 16 C dd_Wa_startOf_5 (by decide) ?_
    refine gf_iret C hQ dd_Wa_startOf_16 (by omega) ?_
    exact ⟨⟨by first | omega | (intro h; omega), by first | omega | (intro _; rfl)⟩, rfl⟩

theorem dd_Wa_copyWith_0 : decode cc_Wa_copyWith 0 = .ok (.aload_n 2, 1) := by decide +kernel
theorem dd_Wa_copyWith_1 : decode cc_Wa_copyWith 1 = .ok (.getfield 31, 3) := by decide +kernel
theorem dd_Wa_copyWith_4 : decode cc_Wa_copyWith 4 = .ok (.iconst 0, 1) := by decide +kernel
theorem dd_Wa_copyWith_5 : decode cc_Wa_copyWith 5 = .ok (.aload_n 0, 1) := by decide +kernel
theorem dd_Wa_copyWith_6 : decode cc_Wa_copyWith 6 = .ok (.getfield 21, 3) := by decide +kernel
theorem dd_Wa_copyWith_9 : decode cc_Wa_copyWith 9 = .ok (.iconst 0, 1) := by decide +kernel
theorem dd_Wa_copyWith_10 : decode cc_Wa_copyWith 10 = .ok (.aload_n 2, 1) := by decide +kernel
theorem dd_Wa_copyWith_11 : decode cc_Wa_copyWith 11 = .ok (.getfield 36, 3) := by decide +kernel
theorem dd_Wa_copyWith_14 : decode cc_Wa_copyWith 14 = .ok (.invokestatic 73, 3) := by decide +kernel
theorem dd_Wa_copyWith_17 : decode cc_Wa_copyWith 17 = .ok (.iload_n 1, 1) := by decide +kernel
theorem dd_Wa_copyWith_18 : decode cc_Wa_copyWith 18 = .ok (.aload_n 0, 1) := by decide +kernel
theorem dd_Wa_copyWith_19 : decode cc_Wa_copyWith 19 = .ok (.getfield 18, 3) := by decide +kernel
theorem dd_Wa_copyWith_22 : decode cc_Wa_copyWith 22 = .ok (.iconst 0, 1) := by decide +kernel
theorem dd_Wa_copyWith_23 : decode cc_Wa_copyWith 23 = .ok (.iaload, 1) := by decide +kernel
theorem dd_Wa_copyWith_24 : decode cc_Wa_copyWith 24 = .ok (.if_icmp .ge 29, 3) := by decide +kernel
theorem dd_Wa_copyWith_27 : decode cc_Wa_copyWith 27 = .ok (.aload_n 0, 1) := by decide +kernel
theorem dd_Wa_copyWith_28 : decode cc_Wa_copyWith 28 = .ok (.getfield 21, 3) := by decide +kernel
theorem dd_Wa_copyWith_31 : decode cc_Wa_copyWith 31 = .ok (.aload_n 0, 1) := by decide +kernel
theorem dd_Wa_copyWith_32 : decode cc_Wa_copyWith 32 = .ok (.getfield 11, 3) := by decide +kernel
theorem dd_Wa_copyWith_35 : decode cc_Wa_copyWith 35 = .ok (.iload_n 1, 1) := by decide +kernel
theorem dd_Wa_copyWith_36 : decode cc_Wa_copyWith 36 = .ok (.iaload, 1) := by decide +kernel
theorem dd_Wa_copyWith_37 : decode cc_Wa_copyWith 37 = .ok (.bipush 10, 2) := by decide +kernel
theorem dd_Wa_copyWith_39 : decode cc_Wa_copyWith 39 = .ok (.idiv, 1) := by decide +kernel
theorem dd_Wa_copyWith_40 : decode cc_Wa_copyWith 40 = .ok (.aload_n 0, 1) := by decide +kernel
theorem dd_Wa_copyWith_41 : decode cc_Wa_copyWith 41 = .ok (.getfield 11, 3) := by decide +kernel
theorem dd_Wa_copyWith_44 : decode cc_Wa_copyWith 44 = .ok (.iload_n 1, 1) := by decide +kernel
theorem dd_Wa_copyWith_45 : decode cc_Wa_copyWith 45 = .ok (.iaload, 1) := by decide +kernel
theorem dd_Wa_copyWith_46 : decode cc_Wa_copyWith 46 = .ok (.bipush 10, 2) := by decide +kernel
theorem dd_Wa_copyWith_48 : decode cc_Wa_copyWith 48 = .ok (.irem, 1) := by decide +kernel
theorem dd_Wa_copyWith_49 : decode cc_Wa_copyWith 49 = .ok (.iastore, 1) := by decide +kernel
theorem dd_Wa_copyWith_50 : decode cc_Wa_copyWith 50 = .ok (.goto 38, 3) := by decide +kernel
theorem dd_Wa_copyWith_53 : decode cc_Wa_copyWith 53 = .ok (.aload_n 0, 1) := by decide +kernel
theorem dd_Wa_copyWith_54 : decode cc_Wa_copyWith 54 = .ok (.getfield 21, 3) := by decide +kernel
theorem dd_Wa_copyWith_57 : decode cc_Wa_copyWith 57 = .ok (.aload_n 0, 1) := by decide +kernel
theorem dd_Wa_copyWith_58 : decode cc_Wa_copyWith 58 = .ok (.getfield 11, 3) := by decide +kernel
theorem dd_Wa_copyWith_61 : decode cc_Wa_copyWith 61 = .ok (.iload_n 1, 1) := by decide +kernel
theorem dd_Wa_copyWith_62 : decode cc_Wa_copyWith 62 = .ok (.iaload, 1) := by decide +kernel
theorem dd_Wa_copyWith_63 : decode cc_Wa_copyWith 63 = .ok (.aload_n 0, 1) := by decide +kernel
theorem dd_Wa_copyWith_64 : decode cc_Wa_copyWith 64 = .ok (.getfield 11, 3) := by decide +kernel
theorem dd_Wa_copyWith_67 : decode cc_Wa_copyWith 67 = .ok (.iload_n 1, 1) := by decide +kernel
theorem dd_Wa_copyWith_68 : decode cc_Wa_copyWith 68 = .ok (.iaload, 1) := by decide +kernel
theorem dd_Wa_copyWith_69 : decode cc_Wa_copyWith 69 = .ok (.iload_n 1, 1) := by decide +kernel
theorem dd_Wa_copyWith_70 : decode cc_Wa_copyWith 70 = .ok (.aload_n 0, 1) := by decide +kernel
theorem dd_Wa_copyWith_71 : decode cc_Wa_copyWith 71 = .ok (.getfield 18, 3) := by decide +kernel
theorem dd_Wa_copyWith_74 : decode cc_Wa_copyWith 74 = .ok (.iconst 1, 1) := by decide +kernel
theorem dd_Wa_copyWith_75 : decode cc_Wa_copyWith 75 = .ok (.iaload, 1) := by decide +kernel
theorem dd_Wa_copyWith_76 : decode cc_Wa_copyWith 76 = .ok (.if_icmp .ge 7, 3) := by decide +kernel
theorem dd_Wa_copyWith_79 : decode cc_Wa_copyWith 79 = .ok (.iconst 1, 1) := by decide +kernel
theorem dd_Wa_copyWith_80 : decode cc_Wa_copyWith 80 = .ok (.goto 4, 3) := by decide +kernel
theorem dd_Wa_copyWith_83 : decode cc_Wa_copyWith 83 = .ok (.iconst 2, 1) := by decide +kernel
theorem dd_Wa_copyWith_84 : decode cc_Wa_copyWith 84 = .ok (.iadd, 1) := by decide +kernel
theorem dd_Wa_copyWith_85 : decode cc_Wa_copyWith 85 = .ok (.invokestatic 79, 3) := by decide +kernel
theorem dd_Wa_copyWith_88 : decode cc_Wa_copyWith 88 = .ok (.return_, 1) := by decide +kernel
set_option maxRecDepth 100000 in
set_option maxHeartbeats 4000000 in
theorem ct_Wa_copyWith (l : Launch) (E : gf_E) (t : Int) (q : Int × (Int → Int)) (f : Int → Int) (n : Int) (μ : gf_M) (ht : 0 ≤ t) (hq : (pf_T f n)[t.toNat]? = some q) (hn : n = μ 41 1 ∧ 0 ≤ n ∧ n ≤ 8) (hf : ∀ j : Int, 0 ≤ j → j < n → f j = μ 42 j) (hF : ∀ j : Int, 0 ≤ j → j < n → 0 ≤ f j ∧ f j ≤ 9) (hm : μ 54 t = q.1) (h0 : μ 56 0 = ((pf_sl f n.toNat).length : Int)) (h1 : μ 56 1 = ((pf_sl f n.toNat).length : Int) + ((pf_ex f 1 (n - 1).toNat).length : Int)) : gf_Mv l E yy_Wa_copyWith cc_Wa_copyWith 3 (gf_rm 1 30) 81 gf_ref 0 0 81 gf_ref μ [.ref (gf_ad E 53), .int (gf_i t), .ref (gf_ad E 41)] (fun μ' => (∀ j : Int, 0 ≤ j → j < n → μ' 57 j = q.2 j ∧ 0 ≤ q.2 j ∧ q.2 j ≤ 9) ∧ ∀ a b : Int, a ≠ 57 → μ' a b = μ a b) := by
  refine gf_mv (by decide +kernel) (Nat.le_of_ble_eq_true rfl) (by decide) (fun X Q hlx C hname hQ => ?_)
  subst hlx
  replace C : gf_C X E cc_Wa_copyWith 3 "GuardFigures$Watch" (gf_rm 1 30) := C
  show gf_G X E Q 3 gf_φ μ 0 [(0, .ref (gf_ad E 53)), (1, .int (gf_i t)), (2, .ref (gf_ad E 41))] []
  have hlt : t.toNat < (pf_T f n).length := (List.getElem?_eq_some_iff.mp hq).1
  have h88 := pf_T_88 hn.2 hF
  have hT := pf_T_at hq
  have ett : ((t.toNat : Nat) : Int) = t := by omega
  refine gf_aload_n C dd_Wa_copyWith_0 2 rfl ?_
  refine gf_getA (r := 42) C gf_cl5 fl_Wa_31 dd_Wa_copyWith_1 rfl (show gf_is 81 41 0 5 5 by decide) (by decide) (by decide) ?_
  refine gf_iconst C dd_Wa_copyWith_4 ?_
  refine gf_aload_n C dd_Wa_copyWith_5 0 rfl ?_
  refine gf_getA (r := 57) C gf_cl4 fl_Wa_21 dd_Wa_copyWith_6 rfl (show gf_is 81 53 0 4 6 by decide) (by decide) (by decide) ?_
  refine gf_iconst C dd_Wa_copyWith_9 ?_
  refine gf_aload_n C dd_Wa_copyWith_10 2 rfl ?_
  refine gf_getI (z := 1) C gf_cl5 fl_Wa_36 dd_Wa_copyWith_11 rfl rfl (show gf_is 81 41 0 5 5 by decide) (fun hv11 => ?_)
  refine gf_copy (x := 0) (y := 0) (n := (μ 41 1)) rfl C (gf_mem 438 (by decide +kernel) (by decide +kernel)) gf_wCp.1 gf_wCp.2.1 gf_wCp.2.2 (by decide) (by decide +kernel) dd_Wa_copyWith_14 (show gf_is 81 42 1 0 8 by decide) (show gf_is 81 57 1 0 8 by decide) (by omega) ?_
  refine gf_nmM (fun m14 hm14 => ?_)
  have e14 : ∀ a b : Int, a ≠ 57 → m14 a b = μ a b := fun a b h => by rw [hm14]; simp [gf_cp, h]
  have c14 : ∀ j : Int, 0 ≤ j → j < n → m14 57 j = f j := fun j a b => by
    rw [hm14, hf j a b]; unfold gf_cp; rw [if_pos ⟨rfl, by omega, by omega⟩]; congr 1; omega
  have f0 := e14 56 0 (by decide)
  have f1 := e14 56 1 (by decide)
  have f4 := e14 54 t (by decide)
  refine gf_iload_n C dd_Wa_copyWith_17 1 rfl ?_
  refine gf_aload_n C dd_Wa_copyWith_18 0 rfl ?_
  refine gf_getA (r := 56) C gf_cl4 fl_Wa_18 dd_Wa_copyWith_19 rfl (show gf_is 81 53 0 4 6 by decide) (by decide) (by decide) ?_
  refine gf_iconst C dd_Wa_copyWith_22 ?_
  refine gf_iald C dd_Wa_copyWith_23 (show gf_is 81 56 1 0 3 by decide) (by omega) (fun hv23 => ?_)
  refine gf_icmp_ge 53 C dd_Wa_copyWith_24 (by decide) (by omega) (by omega) (fun h24 => ?_) (fun h24 => ?_)
  · skip
    obtain ⟨off, hoff, hoq, hmem, hq2⟩ : ∃ off : Int, (off = 1 ∧ t < μ 56 1 ∨ off = 2 ∧ ¬ t < μ 56 1) ∧ (q.1 + off < n) ∧ 0 ≤ q.1 ∧ q.2 = pf_cpx f q.1 off := by
      rcases hT with h | h | h
      · omega
      · have hz := pf_ex_mem h.2.2.1
        exact ⟨1, Or.inl ⟨rfl, by omega⟩, by omega, by omega, h.2.2.2⟩
      · have hz := pf_ex_mem h.2.1
        exact ⟨2, Or.inr ⟨rfl, by omega⟩, by omega, by omega, h.2.2⟩
    have c14a := c14 q.1 (by omega) (by omega)
    have c14b := c14 (q.1 + off) (by omega) (by omega)
    refine gf_aload_n C dd_Wa_copyWith_53 0 rfl ?_
    refine gf_getA (r := 57) C gf_cl4 fl_Wa_21 dd_Wa_copyWith_54 rfl (show gf_is 81 53 0 4 6 by decide) (by decide) (by decide) ?_
    refine gf_aload_n C dd_Wa_copyWith_57 0 rfl ?_
    refine gf_getA (r := 54) C gf_cl4 fl_Wa_11 dd_Wa_copyWith_58 rfl (show gf_is 81 53 0 4 6 by decide) (by decide) (by decide) ?_
    refine gf_iload_n C dd_Wa_copyWith_61 1 rfl ?_
    refine gf_iald C dd_Wa_copyWith_62 (show gf_is 81 54 1 0 88 by decide) (by omega) (fun hv62 => ?_)
    refine gf_aload_n C dd_Wa_copyWith_63 0 rfl ?_
    refine gf_getA (r := 54) C gf_cl4 fl_Wa_11 dd_Wa_copyWith_64 rfl (show gf_is 81 53 0 4 6 by decide) (by decide) (by decide) ?_
    refine gf_iload_n C dd_Wa_copyWith_67 1 rfl ?_
    refine gf_iald C dd_Wa_copyWith_68 (show gf_is 81 54 1 0 88 by decide) (by omega) (fun hv68 => ?_)
    refine gf_iload_n C dd_Wa_copyWith_69 1 rfl ?_
    refine gf_aload_n C dd_Wa_copyWith_70 0 rfl ?_
    refine gf_getA (r := 56) C gf_cl4 fl_Wa_18 dd_Wa_copyWith_71 rfl (show gf_is 81 53 0 4 6 by decide) (by decide) (by decide) ?_
    refine gf_iconst C dd_Wa_copyWith_74 ?_
    refine gf_iald C dd_Wa_copyWith_75 (show gf_is 81 56 1 0 3 by decide) (by omega) (fun hv75 => ?_)
    refine gf_icmp_ge 83 C dd_Wa_copyWith_76 (by decide) (by omega) (by omega) (fun h76 => ?_) (fun h76 => ?_)
    · skip
      refine gf_iconst C dd_Wa_copyWith_83 ?_
      refine gf_iadd C dd_Wa_copyWith_84 ?_
      refine gf_callNv (st := []) (As := [.ref (gf_ad E 57), .int (gf_i (m14 54 t)), .int (gf_i ((m14 54 t) + 2))]) C im_Fi_exchange C.2.2.2.2.2.2.1.2.2.2.2.2.2.2.2.2.1 (ct_Fi_exchange (gf_xl X) E 57 (m14 54 t) ((m14 54 t) + 2) 8 m14 (show gf_is 81 57 1 0 8 by decide) (by omega) (by omega)) rfl ⟨rfl, rfl, rfl, rfl⟩ (Nat.le_of_ble_eq_true rfl) rfl dd_Wa_copyWith_85 (fun m85 hp85 => ?_)
      refine gf_vret C hQ dd_Wa_copyWith_88 ?_
      first
        | (refine ⟨fun j a b => ?_, fun a b h => by rw [hm49, gf_up_k h]; exact e14 a b h⟩
           have hfj := hF j a b
           rw [hq2, hm49, f4, hm]
           unfold pf_cps
           by_cases e : j = q.1 / 10
           · rw [if_pos e, e, gf_up_s]; omega
           · rw [if_neg e, gf_up_j e, c14 j a b]; omega)
        | (refine ⟨fun j a b => ?_, fun a b h => by rw [hp85, gf_up_k h, gf_up_k h]; exact e14 a b h⟩
           have hfj := hF j a b
           have hfk := hF q.1 (by omega) (by omega)
           have hfo := hF (q.1 + off) (by omega) (by omega)
           have eo : (m14 54 t + 1 = q.1 + off ∨ m14 54 t + 2 = q.1 + off) := by omega
           rw [hq2, hp85]
           unfold pf_cpx
           by_cases e : j = q.1 + off
           · rw [if_pos e, show (gf_up (gf_up m14 57 (m14 54 t) _) 57 _ (m14 57 (m14 54 t))) 57 j = m14 57 (m14 54 t) by rw [e]; first | (rw [show m14 54 t + 1 = q.1 + off by omega]; exact gf_up_s) | (rw [show m14 54 t + 2 = q.1 + off by omega]; exact gf_up_s), f4, hm, c14a]; omega
           · rw [if_neg e, gf_up_j (by omega)]
             by_cases e2 : j = q.1
             · rw [if_pos e2, e2, show q.1 = m14 54 t by omega, gf_up_s]
               first
               | (rw [show m14 54 t + 1 = q.1 + off by omega, show m14 54 t + off = q.1 + off by omega, c14b]; omega)
               | (rw [show m14 54 t + 2 = q.1 + off by omega, show m14 54 t + off = q.1 + off by omega, c14b]; omega)
             · rw [if_neg e2, gf_up_j (by omega), c14 j a b]; omega)
    · skip
      refine gf_iconst C dd_Wa_copyWith_79 ?_
      refine gf_goto 84 C dd_Wa_copyWith_80 (by decide) ?_
      refine gf_iadd C dd_Wa_copyWith_84 ?_
      refine gf_callNv (st := []) (As := [.ref (gf_ad E 57), .int (gf_i (m14 54 t)), .int (gf_i ((m14 54 t) + 1))]) C im_Fi_exchange C.2.2.2.2.2.2.1.2.2.2.2.2.2.2.2.2.1 (ct_Fi_exchange (gf_xl X) E 57 (m14 54 t) ((m14 54 t) + 1) 8 m14 (show gf_is 81 57 1 0 8 by decide) (by omega) (by omega)) rfl ⟨rfl, rfl, rfl, rfl⟩ (Nat.le_of_ble_eq_true rfl) rfl dd_Wa_copyWith_85 (fun m85 hp85 => ?_)
      refine gf_vret C hQ dd_Wa_copyWith_88 ?_
      first
        | (refine ⟨fun j a b => ?_, fun a b h => by rw [hm49, gf_up_k h]; exact e14 a b h⟩
           have hfj := hF j a b
           rw [hq2, hm49, f4, hm]
           unfold pf_cps
           by_cases e : j = q.1 / 10
           · rw [if_pos e, e, gf_up_s]; omega
           · rw [if_neg e, gf_up_j e, c14 j a b]; omega)
        | (refine ⟨fun j a b => ?_, fun a b h => by rw [hp85, gf_up_k h, gf_up_k h]; exact e14 a b h⟩
           have hfj := hF j a b
           have hfk := hF q.1 (by omega) (by omega)
           have hfo := hF (q.1 + off) (by omega) (by omega)
           have eo : (m14 54 t + 1 = q.1 + off ∨ m14 54 t + 2 = q.1 + off) := by omega
           rw [hq2, hp85]
           unfold pf_cpx
           by_cases e : j = q.1 + off
           · rw [if_pos e, show (gf_up (gf_up m14 57 (m14 54 t) _) 57 _ (m14 57 (m14 54 t))) 57 j = m14 57 (m14 54 t) by rw [e]; first | (rw [show m14 54 t + 1 = q.1 + off by omega]; exact gf_up_s) | (rw [show m14 54 t + 2 = q.1 + off by omega]; exact gf_up_s), f4, hm, c14a]; omega
           · rw [if_neg e, gf_up_j (by omega)]
             by_cases e2 : j = q.1
             · rw [if_pos e2, e2, show q.1 = m14 54 t by omega, gf_up_s]
               first
               | (rw [show m14 54 t + 1 = q.1 + off by omega, show m14 54 t + off = q.1 + off by omega, c14b]; omega)
               | (rw [show m14 54 t + 2 = q.1 + off by omega, show m14 54 t + off = q.1 + off by omega, c14b]; omega)
             · rw [if_neg e2, gf_up_j (by omega), c14 j a b]; omega)
  · skip
    obtain ⟨_, hmem, hq2⟩ : t.toNat < (pf_sl f n.toNat).length ∧ q.1 ∈ pf_sl f n.toNat ∧ q.2 = pf_cps f q.1 := by
      rcases hT with h | h | h
      · exact h
      · omega
      · omega
    obtain ⟨si, sj, hs0, hs1, hs2, hs3, hs4, hs5⟩ := pf_sl_mem hmem
    refine gf_aload_n C dd_Wa_copyWith_27 0 rfl ?_
    refine gf_getA (r := 57) C gf_cl4 fl_Wa_21 dd_Wa_copyWith_28 rfl (show gf_is 81 53 0 4 6 by decide) (by decide) (by decide) ?_
    refine gf_aload_n C dd_Wa_copyWith_31 0 rfl ?_
    refine gf_getA (r := 54) C gf_cl4 fl_Wa_11 dd_Wa_copyWith_32 rfl (show gf_is 81 53 0 4 6 by decide) (by decide) (by decide) ?_
    refine gf_iload_n C dd_Wa_copyWith_35 1 rfl ?_
    refine gf_iald C dd_Wa_copyWith_36 (show gf_is 81 54 1 0 88 by decide) (by omega) (fun hv36 => ?_)
    refine gf_bipush C dd_Wa_copyWith_37 (by decide +kernel) ?_
    refine gf_idiv C dd_Wa_copyWith_39 (by omega) ?_
    refine gf_aload_n C dd_Wa_copyWith_40 0 rfl ?_
    refine gf_getA (r := 54) C gf_cl4 fl_Wa_11 dd_Wa_copyWith_41 rfl (show gf_is 81 53 0 4 6 by decide) (by decide) (by decide) ?_
    refine gf_iload_n C dd_Wa_copyWith_44 1 rfl ?_
    refine gf_iald C dd_Wa_copyWith_45 (show gf_is 81 54 1 0 88 by decide) (by omega) (fun hv45 => ?_)
    refine gf_bipush C dd_Wa_copyWith_46 (by decide +kernel) ?_
    refine gf_irem C dd_Wa_copyWith_48 (by omega) ?_
    refine gf_iast C dd_Wa_copyWith_49 (show gf_is 81 57 1 0 8 by decide) (by omega) (by omega) ?_
    refine gf_nmM (fun m49 hm49 => ?_)
    refine gf_goto 88 C dd_Wa_copyWith_50 (by decide) ?_
    refine gf_vret C hQ dd_Wa_copyWith_88 ?_
    first
      | (refine ⟨fun j a b => ?_, fun a b h => by rw [hm49, gf_up_k h]; exact e14 a b h⟩
         have hfj := hF j a b
         rw [hq2, hm49, f4, hm]
         unfold pf_cps
         by_cases e : j = q.1 / 10
         · rw [if_pos e, e, gf_up_s]; omega
         · rw [if_neg e, gf_up_j e, c14 j a b]; omega)
      | (refine ⟨fun j a b => ?_, fun a b h => by rw [hp85, gf_up_k h, gf_up_k h]; exact e14 a b h⟩
         have hfj := hF j a b
         have hfk := hF q.1 (by omega) (by omega)
         have hfo := hF (q.1 + off) (by omega) (by omega)
         have eo : (m14 54 t + 1 = q.1 + off ∨ m14 54 t + 2 = q.1 + off) := by omega
         rw [hq2, hp85]
         unfold pf_cpx
         by_cases e : j = q.1 + off
         · rw [if_pos e, show (gf_up (gf_up m14 57 (m14 54 t) _) 57 _ (m14 57 (m14 54 t))) 57 j = m14 57 (m14 54 t) by rw [e]; first | (rw [show m14 54 t + 1 = q.1 + off by omega]; exact gf_up_s) | (rw [show m14 54 t + 2 = q.1 + off by omega]; exact gf_up_s), f4, hm, c14a]; omega
         · rw [if_neg e, gf_up_j (by omega)]
           by_cases e2 : j = q.1
           · rw [if_pos e2, e2, show q.1 = m14 54 t by omega, gf_up_s]
             first
             | (rw [show m14 54 t + 1 = q.1 + off by omega, show m14 54 t + off = q.1 + off by omega, c14b]; omega)
             | (rw [show m14 54 t + 2 = q.1 + off by omega, show m14 54 t + off = q.1 + off by omega, c14b]; omega)
           · rw [if_neg e2, gf_up_j (by omega), c14 j a b]; omega)
end
section
/-! the watch's look and what is told of it -/
theorem gf_lk_bit {μ0 m : gf_M} {a b : Nat} (h : gf_lk μ0 m a b) {t : Nat} {q : Int × (Int → Int)} (hq : (pf_T (μ0 42) (μ0 41 1))[t]? = some q) {i : Int} (hi : (a : Int) ≤ i ∧ i < b) : 0 ≤ m 55 t ∧ (gf_and (m 55 t) (gf_shl 1 i) = 0 ↔ pf_no μ0 (μ0 42) (μ0 41 1) q.2 i.toNat = false) := by
  have h2 := (h.2.1 t q hq).2
  refine ⟨by rw [h2]; omega, ?_⟩
  have e : gf_and (m 55 t) (gf_shl 1 i) = (((pf_nb (pf_no μ0 (μ0 42) (μ0 41 1) q.2) a (b - a)) &&& 2 ^ i.toNat : Nat) : Int) := by
    unfold gf_and gf_shl
    rw [h2, Int.one_mul]
    have e2 : ((2 : Int) ^ i.toNat).toNat = 2 ^ i.toNat := by
      have : ((2 : Int) ^ i.toNat) = ((2 ^ i.toNat : Nat) : Int) := by simp
      rw [this, Int.toNat_natCast]
    rw [e2, Int.toNat_natCast]
  rw [e]
  have h3 := pf_and_bit (pf_nb (pf_no μ0 (μ0 42) (μ0 41 1) q.2) a (b - a)) i.toNat
  rw [pf_nb_bit] at h3
  have h4 : decide (a ≤ i.toNat ∧ i.toNat < a + (b - a)) = true := by simp; omega
  rw [h4, Bool.true_and] at h3
  exact (show ((_ : Nat) : Int) = 0 ↔ _ = 0 by omega).trans h3
theorem gf_shl1 {i : Int} (h : 0 ≤ i ∧ i ≤ 9) : 1 ≤ gf_shl 1 i ∧ gf_shl 1 i ≤ 512 := by
  unfold gf_shl
  have : i = 0 ∨ i = 1 ∨ i = 2 ∨ i = 3 ∨ i = 4 ∨ i = 5 ∨ i = 6 ∨ i = 7 ∨ i = 8 ∨ i = 9 := by omega
  rcases this with rfl | rfl | rfl | rfl | rfl | rfl | rfl | rfl | rfl | rfl <;> decide
theorem pf_take_flt {α : Type} (p : α → Bool) (S : List α) {j : Nat} {q : α} (h : S[j]? = some q) : (S.take (j + 1)).filter p = (S.take j).filter p ++ (if p q = true then [q] else []) := by
  rw [List.take_succ, h, List.filter_append]
  congr 1
  by_cases e : p q = true
  · simp [e]
  · simp [e]
def pf_uf (μ0 : gf_M) (i : Nat) : (Int × (Int → Int)) → Bool := fun q => !pf_no μ0 (μ0 42) (μ0 41 1) q.2 i
def gf_okGs (μ : gf_M) (c : Int) : Prop := ∀ i : Int, 0 ≤ i → i < c → gf_okG μ (24 + i)
theorem dd_Wa_unseen_0 : decode cc_Wa_unseen 0 = .ok (.iconst 0, 1) := by decide +kernel
theorem dd_Wa_unseen_1 : decode cc_Wa_unseen 1 = .ok (.istore_n 3, 1) := by decide +kernel
theorem dd_Wa_unseen_2 : decode cc_Wa_unseen 2 = .ok (.aload_n 0, 1) := by decide +kernel
theorem dd_Wa_unseen_3 : decode cc_Wa_unseen 3 = .ok (.iload_n 2, 1) := by decide +kernel
theorem dd_Wa_unseen_4 : decode cc_Wa_unseen 4 = .ok (.invokevirtual 57, 3) := by decide +kernel
theorem dd_Wa_unseen_7 : decode cc_Wa_unseen 7 = .ok (.istore 4, 2) := by decide +kernel
theorem dd_Wa_unseen_9 : decode cc_Wa_unseen 9 = .ok (.iload 4, 2) := by decide +kernel
theorem dd_Wa_unseen_11 : decode cc_Wa_unseen 11 = .ok (.aload_n 0, 1) := by decide +kernel
theorem dd_Wa_unseen_12 : decode cc_Wa_unseen 12 = .ok (.getfield 18, 3) := by decide +kernel
theorem dd_Wa_unseen_15 : decode cc_Wa_unseen 15 = .ok (.iload_n 2, 1) := by decide +kernel
theorem dd_Wa_unseen_16 : decode cc_Wa_unseen 16 = .ok (.iaload, 1) := by decide +kernel
theorem dd_Wa_unseen_17 : decode cc_Wa_unseen 17 = .ok (.if_icmp .ge 24, 3) := by decide +kernel
theorem dd_Wa_unseen_20 : decode cc_Wa_unseen 20 = .ok (.aload_n 0, 1) := by decide +kernel
theorem dd_Wa_unseen_21 : decode cc_Wa_unseen 21 = .ok (.iload 4, 2) := by decide +kernel
theorem dd_Wa_unseen_23 : decode cc_Wa_unseen 23 = .ok (.iconst 1, 1) := by decide +kernel
theorem dd_Wa_unseen_24 : decode cc_Wa_unseen 24 = .ok (.iload_n 1, 1) := by decide +kernel
theorem dd_Wa_unseen_25 : decode cc_Wa_unseen 25 = .ok (.ishl, 1) := by decide +kernel
theorem dd_Wa_unseen_26 : decode cc_Wa_unseen 26 = .ok (.invokevirtual 61, 3) := by decide +kernel
theorem dd_Wa_unseen_29 : decode cc_Wa_unseen 29 = .ok (.ifCond .ne 6, 3) := by decide +kernel
theorem dd_Wa_unseen_32 : decode cc_Wa_unseen 32 = .ok (.iinc 3 1, 3) := by decide +kernel
theorem dd_Wa_unseen_35 : decode cc_Wa_unseen 35 = .ok (.iinc 4 1, 3) := by decide +kernel
theorem dd_Wa_unseen_38 : decode cc_Wa_unseen 38 = .ok (.goto (-29), 3) := by decide +kernel
theorem dd_Wa_unseen_41 : decode cc_Wa_unseen 41 = .ok (.iload_n 3, 1) := by decide +kernel
theorem dd_Wa_unseen_42 : decode cc_Wa_unseen 42 = .ok (.ireturn, 1) := by decide +kernel
set_option maxRecDepth 100000 in
set_option maxHeartbeats 4000000 in
theorem ct_Wa_unseen (l : Launch) (E : gf_E) (i s : Int) (S Pr Po : List (Int × (Int → Int))) (μ μ0 : gf_M) (a b : Nat) (hlk : gf_lk μ0 μ a b) (hi : (a : Int) ≤ i ∧ i < b) (hb : b ≤ 7) (hs : 0 ≤ s ∧ s ≤ 2) (hT : pf_T (μ0 42) (μ0 41 1) = Pr ++ S ++ Po) (hst : (s = 0 ∧ Pr.length = 0) ∨ (s ≠ 0 ∧ μ 56 (s - 1) = (Pr.length : Int))) (hen : μ 56 s = (Pr.length : Int) + (S.length : Int)) (h88 : (pf_T (μ0 42) (μ0 41 1)).length ≤ 85) : gf_Mi l E yy_Wa_unseen cc_Wa_unseen 5 .int (gf_rm 1 22) 81 gf_ref μ [.ref (gf_ad E 53), .int (gf_i i), .int (gf_i s)] (fun r μ' => (r = ((S.filter (pf_uf μ0 i.toNat)).length : Int) ∧ 0 ≤ r ∧ r ≤ 85) ∧ μ' = μ) := by
  refine gf_mi (by decide +kernel) (Nat.le_of_ble_eq_true rfl) (by decide) (fun X Q hlx C hQ => ?_)
  subst hlx
  replace C : gf_C X E cc_Wa_unseen 5 "GuardFigures$Watch" (gf_rm 1 22) := C
  show gf_G X E Q 5 gf_φ μ 0 [(0, .ref (gf_ad E 53)), (1, .int (gf_i i)), (2, .int (gf_i s))] []
  have hTl : Pr.length + S.length + Po.length ≤ 85 := by
    have := congrArg List.length hT
    simp only [List.length_append] at this
    omega
  have hTat : ∀ (j : Nat) (q : Int × (Int → Int)), S[j]? = some q → (pf_T (μ0 42) (μ0 41 1))[Pr.length + j]? = some q := fun j q h => by
    have hj := (List.getElem?_eq_some_iff.mp h).1
    rw [hT, List.append_assoc, List.getElem?_append_right (by omega), List.getElem?_append_left (by omega), Nat.add_sub_cancel_left]
    exact h
  have hsh := gf_shl1 (i := i) (by omega)
  refine gf_iconst C dd_Wa_unseen_0 ?_
  refine gf_istore_n (lv' := [(3, .int (gf_i 0)), (0, .ref (gf_ad E 53)), (1, .int (gf_i i)), (2, .int (gf_i s))]) C dd_Wa_unseen_1 (by decide) rfl ?_
  refine gf_aload_n C dd_Wa_unseen_2 1 rfl ?_
  refine gf_iload_n C dd_Wa_unseen_3 3 rfl ?_
  refine gf_callVi (st := []) (As := [.int (gf_i s)]) C wk_Wa_57 gf_cl4 (show gf_is 81 53 0 4 6 by decide) (ct_Wa_startOf (gf_xl X) E s μ (hs)) rfl ⟨rfl, rfl, rfl, rfl⟩ (Nat.le_of_ble_eq_true rfl) rfl dd_Wa_unseen_4 (fun r4 m4 hR4 hp4 => ?_)
  have hr4 := hp4.1
  refine gf_pm hp4.2 ?_
  refine gf_istore (lv' := [(4, .int (gf_i r4)), (3, .int (gf_i 0)), (0, .ref (gf_ad E 53)), (1, .int (gf_i i)), (2, .int (gf_i s))]) C dd_Wa_unseen_7 (by decide) rfl ?_
  have L9_1 : ∀ (N : Nat) (c t : Int) , ((Pr.length : Int) ≤ t ∧ t ≤ (Pr.length : Int) + S.length ∧ c = (((S.take (t - Pr.length).toNat).filter (pf_uf μ0 i.toNat)).length : Int)) → (88 - t).toNat < N → gf_G X E Q 5 gf_φ μ 9 [(3, .int (gf_i c)), (4, .int (gf_i t)), (0, .ref (gf_ad E 53)), (1, .int (gf_i i)), (2, .int (gf_i s))] [] := by
    intro N
    induction N with
    | zero => intro c t hinv hN; exact absurd hN (Nat.not_lt_zero _)
    | succ N ih9_1 =>
      intro c t hinv hN
      have hinv0 := hinv
      obtain ⟨ht0, ht1, hc⟩ := hinv
      have hcl : ((S.take (t - Pr.length).toNat).filter (pf_uf μ0 i.toNat)).length ≤ 85 := by
        have h1 := List.length_filter_le (pf_uf μ0 i.toNat) (S.take (t - Pr.length).toNat)
        have h2 := List.length_take_le' (t - Pr.length).toNat S
        omega
      refine gf_iload C dd_Wa_unseen_9 1 rfl ?_
      refine gf_aload_n C dd_Wa_unseen_11 2 rfl ?_
      refine gf_getA (r := 56) C gf_cl4 fl_Wa_18 dd_Wa_unseen_12 rfl (show gf_is 81 53 0 4 6 by decide) (by decide) (by decide) ?_
      refine gf_iload_n C dd_Wa_unseen_15 4 rfl ?_
      refine gf_iald C dd_Wa_unseen_16 (show gf_is 81 56 1 0 3 by decide) (by omega) (fun hv16 => ?_)
      refine gf_icmp_ge 41 C dd_Wa_unseen_17 (by decide) (by omega) (by omega) (fun h17 => ?_) (fun h17 => ?_)
      · skip
        refine gf_iload_n C dd_Wa_unseen_41 0 rfl ?_
        refine gf_iret C hQ dd_Wa_unseen_42 (by omega) ?_
        refine ⟨⟨?_, by omega, by omega⟩, rfl⟩
        rw [hc, show (t - (Pr.length : Int)).toNat = S.length by omega, List.take_length]
      · skip
        have hj := show (t - (Pr.length : Int)).toNat < S.length by omega
        have hSq : S[(t - (Pr.length : Int)).toNat]? = some S[(t - (Pr.length : Int)).toNat] := List.getElem?_eq_getElem hj
        have hTq := hTat _ _ hSq
        rw [show Pr.length + (t - (Pr.length : Int)).toNat = t.toNat by omega] at hTq
        have hbit := gf_lk_bit hlk hTq hi
        rw [show ((t.toNat : Nat) : Int) = t by omega] at hbit
        refine gf_aload_n C dd_Wa_unseen_20 2 rfl ?_
        refine gf_iload C dd_Wa_unseen_21 1 rfl ?_
        refine gf_iconst C dd_Wa_unseen_23 ?_
        refine gf_iload_n C dd_Wa_unseen_24 3 rfl ?_
        refine gf_ishl C dd_Wa_unseen_25 (by omega) ?_
        refine gf_callVi (st := []) (As := [.int (gf_i t), .int (gf_i (gf_shl 1 i))]) C wk_Wa_61 gf_cl4 (show gf_is 81 53 0 4 6 by decide) (ct_Wa_isNoticed (gf_xl X) E t (gf_shl 1 i) μ (by omega) (by omega) (by omega)) rfl ⟨rfl, rfl, rfl, rfl⟩ (Nat.le_of_ble_eq_true rfl) rfl dd_Wa_unseen_26 (fun r26 m26 hR26 hp26 => ?_)
        have hr26 := hp26.1
        refine gf_pm hp26.2 ?_
        refine gf_if_ne 35 C dd_Wa_unseen_29 (by decide) (by omega) (fun h29 => ?_) (fun h29 => ?_)
        · skip
          obtain ⟨x35, hx35⟩ : ∃ y : Int, y = t + 1 := ⟨_, rfl⟩
          refine gf_iinc (q := 1) (v := x35) (lv' := [(4, .int (gf_i x35)), (3, .int (gf_i c)), (0, .ref (gf_ad E 53)), (1, .int (gf_i i)), (2, .int (gf_i s))]) C dd_Wa_unseen_35 rfl hx35 (by decide) rfl ?_
          refine gf_goto 9 C dd_Wa_unseen_38 (by decide) ?_
          refine gf_lsub [1, 0, 2, 3, 4] rfl ?_
          exact ih9_1 c x35 (by
                  refine ⟨by omega, by omega, ?_⟩
                  rw [hx35, show (t + 1 - (Pr.length : Int)).toNat = (t - (Pr.length : Int)).toNat + 1 by omega, pf_take_flt _ _ hSq, List.length_append]
                  have hu : pf_uf μ0 i.toNat S[(t - (Pr.length : Int)).toNat] = !pf_no μ0 (μ0 42) (μ0 41 1) (S[(t - (Pr.length : Int)).toNat]).2 i.toNat := rfl
                  by_cases e : pf_no μ0 (μ0 42) (μ0 41 1) (S[(t - (Pr.length : Int)).toNat]).2 i.toNat = false
                  · have e0 := hbit.2.mpr e
                    have := hr26.1 e0
                    rw [if_pos (by rw [hu, e]; rfl)]
                    simp only [List.length_singleton]
                    omega
                  · have e0 : gf_and (μ 55 t) (gf_shl 1 i) ≠ 0 := fun z => e (hbit.2.mp z)
                    have := hr26.2 e0
                    rw [if_neg (by rw [hu]; simpa using e)]
                    simp only [List.length_nil]
                    omega) (by omega)
        · skip
          obtain ⟨x32, hx32⟩ : ∃ y : Int, y = c + 1 := ⟨_, rfl⟩
          refine gf_iinc (q := 0) (v := x32) (lv' := [(3, .int (gf_i x32)), (4, .int (gf_i t)), (0, .ref (gf_ad E 53)), (1, .int (gf_i i)), (2, .int (gf_i s))]) C dd_Wa_unseen_32 rfl hx32 (by decide) rfl ?_
          obtain ⟨x35, hx35⟩ : ∃ y : Int, y = t + 1 := ⟨_, rfl⟩
          refine gf_iinc (q := 1) (v := x35) (lv' := [(4, .int (gf_i x35)), (3, .int (gf_i x32)), (0, .ref (gf_ad E 53)), (1, .int (gf_i i)), (2, .int (gf_i s))]) C dd_Wa_unseen_35 rfl hx35 (by decide) rfl ?_
          refine gf_goto 9 C dd_Wa_unseen_38 (by decide) ?_
          refine gf_lsub [1, 0, 2, 3, 4] rfl ?_
          exact ih9_1 x32 x35 (by
                  refine ⟨by omega, by omega, ?_⟩
                  rw [hx35, show (t + 1 - (Pr.length : Int)).toNat = (t - (Pr.length : Int)).toNat + 1 by omega, pf_take_flt _ _ hSq, List.length_append]
                  have hu : pf_uf μ0 i.toNat S[(t - (Pr.length : Int)).toNat] = !pf_no μ0 (μ0 42) (μ0 41 1) (S[(t - (Pr.length : Int)).toNat]).2 i.toNat := rfl
                  by_cases e : pf_no μ0 (μ0 42) (μ0 41 1) (S[(t - (Pr.length : Int)).toNat]).2 i.toNat = false
                  · have e0 := hbit.2.mpr e
                    have := hr26.1 e0
                    rw [if_pos (by rw [hu, e]; rfl)]
                    simp only [List.length_singleton]
                    omega
                  · have e0 : gf_and (μ 55 t) (gf_shl 1 i) ≠ 0 := fun z => e (hbit.2.mp z)
                    have := hr26.2 e0
                    rw [if_neg (by rw [hu]; simpa using e)]
                    simp only [List.length_nil]
                    omega) (by omega)
  refine gf_lsub [1, 0, 2, 3, 4] rfl ?_
  exact L9_1 _ 0 r4 (⟨by omega, by omega, by rw [show (r4 - (Pr.length : Int)).toNat = 0 by omega]; rfl⟩) (Nat.lt_succ_self _)

theorem dd_Wa_firstUnseen_0 : decode cc_Wa_firstUnseen 0 = .ok (.aload_n 0, 1) := by decide +kernel
theorem dd_Wa_firstUnseen_1 : decode cc_Wa_firstUnseen 1 = .ok (.iload_n 2, 1) := by decide +kernel
theorem dd_Wa_firstUnseen_2 : decode cc_Wa_firstUnseen 2 = .ok (.invokevirtual 57, 3) := by decide +kernel
theorem dd_Wa_firstUnseen_5 : decode cc_Wa_firstUnseen 5 = .ok (.istore_n 3, 1) := by decide +kernel
theorem dd_Wa_firstUnseen_6 : decode cc_Wa_firstUnseen 6 = .ok (.iload_n 3, 1) := by decide +kernel
theorem dd_Wa_firstUnseen_7 : decode cc_Wa_firstUnseen 7 = .ok (.aload_n 0, 1) := by decide +kernel
theorem dd_Wa_firstUnseen_8 : decode cc_Wa_firstUnseen 8 = .ok (.getfield 18, 3) := by decide +kernel
theorem dd_Wa_firstUnseen_11 : decode cc_Wa_firstUnseen 11 = .ok (.iload_n 2, 1) := by decide +kernel
theorem dd_Wa_firstUnseen_12 : decode cc_Wa_firstUnseen 12 = .ok (.iaload, 1) := by decide +kernel
theorem dd_Wa_firstUnseen_13 : decode cc_Wa_firstUnseen 13 = .ok (.if_icmp .ge 27, 3) := by decide +kernel
theorem dd_Wa_firstUnseen_16 : decode cc_Wa_firstUnseen 16 = .ok (.aload_n 0, 1) := by decide +kernel
theorem dd_Wa_firstUnseen_17 : decode cc_Wa_firstUnseen 17 = .ok (.iload_n 3, 1) := by decide +kernel
theorem dd_Wa_firstUnseen_18 : decode cc_Wa_firstUnseen 18 = .ok (.iconst 1, 1) := by decide +kernel
theorem dd_Wa_firstUnseen_19 : decode cc_Wa_firstUnseen 19 = .ok (.iload_n 1, 1) := by decide +kernel
theorem dd_Wa_firstUnseen_20 : decode cc_Wa_firstUnseen 20 = .ok (.ishl, 1) := by decide +kernel
theorem dd_Wa_firstUnseen_21 : decode cc_Wa_firstUnseen 21 = .ok (.invokevirtual 61, 3) := by decide +kernel
theorem dd_Wa_firstUnseen_24 : decode cc_Wa_firstUnseen 24 = .ok (.ifCond .ne 10, 3) := by decide +kernel
theorem dd_Wa_firstUnseen_27 : decode cc_Wa_firstUnseen 27 = .ok (.aload_n 0, 1) := by decide +kernel
theorem dd_Wa_firstUnseen_28 : decode cc_Wa_firstUnseen 28 = .ok (.getfield 11, 3) := by decide +kernel
theorem dd_Wa_firstUnseen_31 : decode cc_Wa_firstUnseen 31 = .ok (.iload_n 3, 1) := by decide +kernel
theorem dd_Wa_firstUnseen_32 : decode cc_Wa_firstUnseen 32 = .ok (.iaload, 1) := by decide +kernel
theorem dd_Wa_firstUnseen_33 : decode cc_Wa_firstUnseen 33 = .ok (.ireturn, 1) := by decide +kernel
theorem dd_Wa_firstUnseen_34 : decode cc_Wa_firstUnseen 34 = .ok (.iinc 3 1, 3) := by decide +kernel
theorem dd_Wa_firstUnseen_37 : decode cc_Wa_firstUnseen 37 = .ok (.goto (-31), 3) := by decide +kernel
theorem dd_Wa_firstUnseen_40 : decode cc_Wa_firstUnseen 40 = .ok (.bipush (-9), 2) := by decide +kernel
theorem dd_Wa_firstUnseen_42 : decode cc_Wa_firstUnseen 42 = .ok (.ireturn, 1) := by decide +kernel
set_option maxRecDepth 100000 in
set_option maxHeartbeats 4000000 in
theorem ct_Wa_firstUnseen (l : Launch) (E : gf_E) (i s : Int) (S Pr Po : List (Int × (Int → Int))) (μ μ0 : gf_M) (a b : Nat) (hlk : gf_lk μ0 μ a b) (hi : (a : Int) ≤ i ∧ i < b) (hb : b ≤ 7) (hs : 0 ≤ s ∧ s ≤ 2) (hT : pf_T (μ0 42) (μ0 41 1) = Pr ++ S ++ Po) (hst : (s = 0 ∧ Pr.length = 0) ∨ (s ≠ 0 ∧ μ 56 (s - 1) = (Pr.length : Int))) (hen : μ 56 s = (Pr.length : Int) + (S.length : Int)) (h88 : (pf_T (μ0 42) (μ0 41 1)).length ≤ 85) : gf_Mi l E yy_Wa_firstUnseen cc_Wa_firstUnseen 4 .int (gf_rm 1 22) 81 gf_ref μ [.ref (gf_ad E 53), .int (gf_i i), .int (gf_i s)] (fun r μ' => r = (((S.filter (pf_uf μ0 i.toNat)).head?.map (fun q => q.1)).getD (-9)) ∧ μ' = μ) := by
  refine gf_mi (by decide +kernel) (Nat.le_of_ble_eq_true rfl) (by decide) (fun X Q hlx C hQ => ?_)
  subst hlx
  replace C : gf_C X E cc_Wa_firstUnseen 4 "GuardFigures$Watch" (gf_rm 1 22) := C
  show gf_G X E Q 4 gf_φ μ 0 [(0, .ref (gf_ad E 53)), (1, .int (gf_i i)), (2, .int (gf_i s))] []
  have hTl : Pr.length + S.length + Po.length ≤ 85 := by
    have := congrArg List.length hT
    simp only [List.length_append] at this
    omega
  have hTat : ∀ (j : Nat) (q : Int × (Int → Int)), S[j]? = some q → (pf_T (μ0 42) (μ0 41 1))[Pr.length + j]? = some q := fun j q h => by
    have hj := (List.getElem?_eq_some_iff.mp h).1
    rw [hT, List.append_assoc, List.getElem?_append_right (by omega), List.getElem?_append_left (by omega), Nat.add_sub_cancel_left]
    exact h
  have hsh := gf_shl1 (i := i) (by omega)
  refine gf_aload_n C dd_Wa_firstUnseen_0 0 rfl ?_
  refine gf_iload_n C dd_Wa_firstUnseen_1 2 rfl ?_
  refine gf_callVi (st := []) (As := [.int (gf_i s)]) C wk_Wa_57 gf_cl4 (show gf_is 81 53 0 4 6 by decide) (ct_Wa_startOf (gf_xl X) E s μ (by omega)) rfl ⟨rfl, rfl, rfl, rfl⟩ (Nat.le_of_ble_eq_true rfl) rfl dd_Wa_firstUnseen_2 (fun r2 m2 hR2 hp2 => ?_)
  have hr2 := hp2.1
  refine gf_pm hp2.2 ?_
  refine gf_istore_n (lv' := [(3, .int (gf_i r2)), (0, .ref (gf_ad E 53)), (1, .int (gf_i i)), (2, .int (gf_i s))]) C dd_Wa_firstUnseen_5 (by decide) rfl ?_
  have L6_1 : ∀ (N : Nat) (t : Int) , ((Pr.length : Int) ≤ t ∧ t ≤ (Pr.length : Int) + S.length ∧ (S.take (t - Pr.length).toNat).filter (pf_uf μ0 i.toNat) = []) → (88 - t).toNat < N → gf_G X E Q 4 gf_φ μ 6 [(3, .int (gf_i t)), (0, .ref (gf_ad E 53)), (1, .int (gf_i i)), (2, .int (gf_i s))] [] := by
    intro N
    induction N with
    | zero => intro t hinv hN; exact absurd hN (Nat.not_lt_zero _)
    | succ N ih6_1 =>
      intro t hinv hN
      have hinv0 := hinv
      obtain ⟨ht0, ht1, hc⟩ := hinv
      refine gf_iload_n C dd_Wa_firstUnseen_6 0 rfl ?_
      refine gf_aload_n C dd_Wa_firstUnseen_7 1 rfl ?_
      refine gf_getA (r := 56) C gf_cl4 fl_Wa_18 dd_Wa_firstUnseen_8 rfl (show gf_is 81 53 0 4 6 by decide) (by decide) (by decide) ?_
      refine gf_iload_n C dd_Wa_firstUnseen_11 3 rfl ?_
      refine gf_iald C dd_Wa_firstUnseen_12 (show gf_is 81 56 1 0 3 by decide) (by omega) (fun hv12 => ?_)
      refine gf_icmp_ge 40 C dd_Wa_firstUnseen_13 (by decide) (by omega) (by omega) (fun h13 => ?_) (fun h13 => ?_)
      · skip
        refine gf_bipush C dd_Wa_firstUnseen_40 (by decide +kernel) ?_
        refine gf_iret C hQ dd_Wa_firstUnseen_42 (by omega) ?_
        refine ⟨?_, rfl⟩
        rw [show (t - (Pr.length : Int)).toNat = S.length by omega, List.take_length] at hc
        rw [hc]
        rfl
      · skip
        have hj := show (t - (Pr.length : Int)).toNat < S.length by omega
        have hSq : S[(t - (Pr.length : Int)).toNat]? = some S[(t - (Pr.length : Int)).toNat] := List.getElem?_eq_getElem hj
        have hTq := hTat _ _ hSq
        rw [show Pr.length + (t - (Pr.length : Int)).toNat = t.toNat by omega] at hTq
        have hbit := gf_lk_bit hlk hTq hi
        rw [show ((t.toNat : Nat) : Int) = t by omega] at hbit
        refine gf_aload_n C dd_Wa_firstUnseen_16 1 rfl ?_
        refine gf_iload_n C dd_Wa_firstUnseen_17 0 rfl ?_
        refine gf_iconst C dd_Wa_firstUnseen_18 ?_
        refine gf_iload_n C dd_Wa_firstUnseen_19 2 rfl ?_
        refine gf_ishl C dd_Wa_firstUnseen_20 (by omega) ?_
        refine gf_callVi (st := []) (As := [.int (gf_i t), .int (gf_i (gf_shl 1 i))]) C wk_Wa_61 gf_cl4 (show gf_is 81 53 0 4 6 by decide) (ct_Wa_isNoticed (gf_xl X) E t (gf_shl 1 i) μ (by omega) (by omega) (by omega)) rfl ⟨rfl, rfl, rfl, rfl⟩ (Nat.le_of_ble_eq_true rfl) rfl dd_Wa_firstUnseen_21 (fun r21 m21 hR21 hp21 => ?_)
        have hr21 := hp21.1
        refine gf_pm hp21.2 ?_
        refine gf_if_ne 34 C dd_Wa_firstUnseen_24 (by decide) (by omega) (fun h24 => ?_) (fun h24 => ?_)
        · skip
          obtain ⟨x34, hx34⟩ : ∃ y : Int, y = t + 1 := ⟨_, rfl⟩
          refine gf_iinc (q := 0) (v := x34) (lv' := [(3, .int (gf_i x34)), (0, .ref (gf_ad E 53)), (1, .int (gf_i i)), (2, .int (gf_i s))]) C dd_Wa_firstUnseen_34 rfl hx34 (by decide) rfl ?_
          refine gf_goto 6 C dd_Wa_firstUnseen_37 (by decide) ?_
          refine gf_lsub [0, 1, 2, 3] rfl ?_
          exact ih6_1 x34 (by
                  refine ⟨by omega, by omega, ?_⟩
                  rw [hx34, show (t + 1 - (Pr.length : Int)).toNat = (t - (Pr.length : Int)).toNat + 1 by omega, pf_take_flt _ _ hSq, hc, if_neg ?_]
                  · rfl
                  · intro z
                    have z2 : pf_no μ0 (μ0 42) (μ0 41 1) (S[(t - (Pr.length : Int)).toNat]).2 i.toNat = false := by simpa [pf_uf] using z
                    have := hr21.1 (hbit.2.mpr z2)
                    omega) (by omega)
        · skip
          refine gf_aload_n C dd_Wa_firstUnseen_27 1 rfl ?_
          refine gf_getA (r := 54) C gf_cl4 fl_Wa_11 dd_Wa_firstUnseen_28 rfl (show gf_is 81 53 0 4 6 by decide) (by decide) (by decide) ?_
          refine gf_iload_n C dd_Wa_firstUnseen_31 0 rfl ?_
          refine gf_iald C dd_Wa_firstUnseen_32 (show gf_is 81 54 1 0 88 by decide) (by omega) (fun hv32 => ?_)
          have hmk : μ 54 t = (S[(t - (Pr.length : Int)).toNat]).1 := by have := (hlk.2.1 _ _ hTq).1; rwa [show ((t.toNat : Nat) : Int) = t by omega] at this
          refine gf_iret C hQ dd_Wa_firstUnseen_33 (by omega) ?_
          refine ⟨?_, rfl⟩
          have hno : pf_no μ0 (μ0 42) (μ0 41 1) (S[(t - (Pr.length : Int)).toNat]).2 i.toNat = false := by
            apply hbit.2.mp
            by_cases z : gf_and (μ 55 t) (gf_shl 1 i) = 0
            · exact z
            · have := hr21.2 z
              omega
          have hS : S = S.take ((t - (Pr.length : Int)).toNat + 1) ++ S.drop ((t - (Pr.length : Int)).toNat + 1) := (List.take_append_drop _ _).symm
          rw [hmk]
          conv => rhs; rw [hS, List.filter_append, pf_take_flt _ _ hSq, hc, if_pos (by show (!_) = true; rw [hno]; rfl)]
          rfl
  refine gf_lsub [0, 1, 2, 3] rfl ?_
  exact L6_1 _ r2 (⟨by omega, by omega, by rw [show (r2 - (Pr.length : Int)).toNat = 0 by omega]; rfl⟩) (Nat.lt_succ_self _)

theorem dd_Wa_unseen2_0 : decode cc_Wa_unseen2 0 = .ok (.aload_n 0, 1) := by decide +kernel
theorem dd_Wa_unseen2_1 : decode cc_Wa_unseen2 1 = .ok (.iload_n 1, 1) := by decide +kernel
theorem dd_Wa_unseen2_2 : decode cc_Wa_unseen2 2 = .ok (.iconst 0, 1) := by decide +kernel
theorem dd_Wa_unseen2_3 : decode cc_Wa_unseen2 3 = .ok (.invokevirtual 53, 3) := by decide +kernel
theorem dd_Wa_unseen2_6 : decode cc_Wa_unseen2 6 = .ok (.aload_n 0, 1) := by decide +kernel
theorem dd_Wa_unseen2_7 : decode cc_Wa_unseen2 7 = .ok (.iload_n 1, 1) := by decide +kernel
theorem dd_Wa_unseen2_8 : decode cc_Wa_unseen2 8 = .ok (.iconst 1, 1) := by decide +kernel
theorem dd_Wa_unseen2_9 : decode cc_Wa_unseen2 9 = .ok (.invokevirtual 53, 3) := by decide +kernel
theorem dd_Wa_unseen2_12 : decode cc_Wa_unseen2 12 = .ok (.iadd, 1) := by decide +kernel
theorem dd_Wa_unseen2_13 : decode cc_Wa_unseen2 13 = .ok (.aload_n 0, 1) := by decide +kernel
theorem dd_Wa_unseen2_14 : decode cc_Wa_unseen2 14 = .ok (.iload_n 1, 1) := by decide +kernel
theorem dd_Wa_unseen2_15 : decode cc_Wa_unseen2 15 = .ok (.iconst 2, 1) := by decide +kernel
theorem dd_Wa_unseen2_16 : decode cc_Wa_unseen2 16 = .ok (.invokevirtual 53, 3) := by decide +kernel
theorem dd_Wa_unseen2_19 : decode cc_Wa_unseen2 19 = .ok (.iadd, 1) := by decide +kernel
theorem dd_Wa_unseen2_20 : decode cc_Wa_unseen2 20 = .ok (.ireturn, 1) := by decide +kernel
set_option maxRecDepth 100000 in
set_option maxHeartbeats 4000000 in
theorem ct_Wa_unseen2 (l : Launch) (E : gf_E) (i : Int) (μ μ0 : gf_M) (a b : Nat) (hlk : gf_lk μ0 μ a b) (hi : (a : Int) ≤ i ∧ i < b) (hb : b ≤ 7) (h88 : (pf_T (μ0 42) (μ0 41 1)).length ≤ 85) : gf_Mi l E yy_Wa_unseen2 cc_Wa_unseen2 2 .int (gf_rm 2 46) 81 gf_ref μ [.ref (gf_ad E 53), .int (gf_i i)] (fun r μ' => (r = (((pf_T (μ0 42) (μ0 41 1)).filter (pf_uf μ0 i.toNat)).length : Int) ∧ 0 ≤ r ∧ r ≤ 255) ∧ μ' = μ) := by
  refine gf_mi (by decide +kernel) (Nat.le_of_ble_eq_true rfl) (by decide) (fun X Q hlx C hQ => ?_)
  subst hlx
  replace C : gf_C X E cc_Wa_unseen2 2 "GuardFigures$Watch" (gf_rm 2 46) := C
  show gf_G X E Q 2 gf_φ μ 0 [(0, .ref (gf_ad E 53)), (1, .int (gf_i i))] []
  refine gf_aload_n C dd_Wa_unseen2_0 0 rfl ?_
  refine gf_iload_n C dd_Wa_unseen2_1 1 rfl ?_
  refine gf_iconst C dd_Wa_unseen2_2 ?_
  refine gf_callVi (st := []) (As := [.int (gf_i i), .int (gf_i 0)]) C wk_Wa_53 gf_cl4 (show gf_is 81 53 0 4 6 by decide) (ct_Wa_unseen (gf_xl X) E i 0 ((pf_sl (μ0 42) (μ0 41 1).toNat).map (fun m => (m, pf_cps (μ0 42) m))) ([]) (((pf_ex (μ0 42) 1 (μ0 41 1 - 1).toNat).map (fun k => (k, pf_cpx (μ0 42) k 1))) ++ ((pf_ex (μ0 42) 2 (μ0 41 1 - 2).toNat).map (fun k => (k, pf_cpx (μ0 42) k 2)))) μ μ0 a b hlk hi hb (by decide) (by simp only [pf_T, List.nil_append, List.append_assoc]) (Or.inl ⟨rfl, rfl⟩) (by rw [List.length_map]; simpa using hlk.2.2.1) h88) rfl ⟨rfl, rfl, rfl, rfl⟩ (Nat.le_of_ble_eq_true rfl) rfl dd_Wa_unseen2_3 (fun r3 m3 hR3 hp3 => ?_)
  have hr3 := hp3.1
  refine gf_pm hp3.2 ?_
  refine gf_aload_n C dd_Wa_unseen2_6 0 rfl ?_
  refine gf_iload_n C dd_Wa_unseen2_7 1 rfl ?_
  refine gf_iconst C dd_Wa_unseen2_8 ?_
  refine gf_callVi (st := [.int (gf_i r3)]) (As := [.int (gf_i i), .int (gf_i 1)]) C wk_Wa_53 gf_cl4 (show gf_is 81 53 0 4 6 by decide) (ct_Wa_unseen (gf_xl X) E i 1 ((pf_ex (μ0 42) 1 (μ0 41 1 - 1).toNat).map (fun k => (k, pf_cpx (μ0 42) k 1))) ((pf_sl (μ0 42) (μ0 41 1).toNat).map (fun m => (m, pf_cps (μ0 42) m))) ((pf_ex (μ0 42) 2 (μ0 41 1 - 2).toNat).map (fun k => (k, pf_cpx (μ0 42) k 2))) μ μ0 a b hlk hi hb (by decide) (rfl) (Or.inr ⟨by decide, by rw [List.length_map]; exact hlk.2.2.1⟩) (by rw [List.length_map, List.length_map]; exact hlk.2.2.2.1) h88) rfl ⟨rfl, rfl, rfl, rfl⟩ (Nat.le_of_ble_eq_true rfl) rfl dd_Wa_unseen2_9 (fun r9 m9 hR9 hp9 => ?_)
  have hr9 := hp9.1
  refine gf_pm hp9.2 ?_
  refine gf_iadd C dd_Wa_unseen2_12 ?_
  refine gf_aload_n C dd_Wa_unseen2_13 0 rfl ?_
  refine gf_iload_n C dd_Wa_unseen2_14 1 rfl ?_
  refine gf_iconst C dd_Wa_unseen2_15 ?_
  refine gf_callVi (st := [.int (gf_i (r3 + r9))]) (As := [.int (gf_i i), .int (gf_i 2)]) C wk_Wa_53 gf_cl4 (show gf_is 81 53 0 4 6 by decide) (ct_Wa_unseen (gf_xl X) E i 2 ((pf_ex (μ0 42) 2 (μ0 41 1 - 2).toNat).map (fun k => (k, pf_cpx (μ0 42) k 2))) (((pf_sl (μ0 42) (μ0 41 1).toNat).map (fun m => (m, pf_cps (μ0 42) m))) ++ ((pf_ex (μ0 42) 1 (μ0 41 1 - 1).toNat).map (fun k => (k, pf_cpx (μ0 42) k 1)))) ([]) μ μ0 a b hlk hi hb (by decide) (by rw [List.append_nil]; rfl) (Or.inr ⟨by decide, by rw [List.length_append, List.length_map, List.length_map]; exact hlk.2.2.2.1⟩) (by rw [List.length_append, List.length_map, List.length_map, List.length_map]; exact hlk.2.2.2.2.1) h88) rfl ⟨rfl, rfl, rfl, rfl⟩ (Nat.le_of_ble_eq_true rfl) rfl dd_Wa_unseen2_16 (fun r16 m16 hR16 hp16 => ?_)
  have hr16 := hp16.1
  refine gf_pm hp16.2 ?_
  refine gf_iadd C dd_Wa_unseen2_19 ?_
  refine gf_iret C hQ dd_Wa_unseen2_20 (by omega) ?_
  refine ⟨⟨?_, by omega, by omega⟩, rfl⟩
  rw [hr3.1, hr9.1, hr16.1]
  unfold pf_T
  rw [List.filter_append, List.filter_append, List.length_append, List.length_append]
  omega

theorem dd_Wa_isCoveredBy_0 : decode cc_Wa_isCoveredBy 0 = .ok (.iconst 0, 1) := by decide +kernel
theorem dd_Wa_isCoveredBy_1 : decode cc_Wa_isCoveredBy 1 = .ok (.istore_n 2, 1) := by decide +kernel
theorem dd_Wa_isCoveredBy_2 : decode cc_Wa_isCoveredBy 2 = .ok (.iload_n 2, 1) := by decide +kernel
theorem dd_Wa_isCoveredBy_3 : decode cc_Wa_isCoveredBy 3 = .ok (.aload_n 0, 1) := by decide +kernel
theorem dd_Wa_isCoveredBy_4 : decode cc_Wa_isCoveredBy 4 = .ok (.getfield 46, 3) := by decide +kernel
theorem dd_Wa_isCoveredBy_7 : decode cc_Wa_isCoveredBy 7 = .ok (.if_icmp .ge 20, 3) := by decide +kernel
theorem dd_Wa_isCoveredBy_10 : decode cc_Wa_isCoveredBy 10 = .ok (.aload_n 0, 1) := by decide +kernel
theorem dd_Wa_isCoveredBy_11 : decode cc_Wa_isCoveredBy 11 = .ok (.iload_n 2, 1) := by decide +kernel
theorem dd_Wa_isCoveredBy_12 : decode cc_Wa_isCoveredBy 12 = .ok (.iload_n 1, 1) := by decide +kernel
theorem dd_Wa_isCoveredBy_13 : decode cc_Wa_isCoveredBy 13 = .ok (.invokevirtual 61, 3) := by decide +kernel
theorem dd_Wa_isCoveredBy_16 : decode cc_Wa_isCoveredBy 16 = .ok (.ifCond .ne 5, 3) := by decide +kernel
theorem dd_Wa_isCoveredBy_19 : decode cc_Wa_isCoveredBy 19 = .ok (.iconst 0, 1) := by decide +kernel
theorem dd_Wa_isCoveredBy_20 : decode cc_Wa_isCoveredBy 20 = .ok (.ireturn, 1) := by decide +kernel
theorem dd_Wa_isCoveredBy_21 : decode cc_Wa_isCoveredBy 21 = .ok (.iinc 2 1, 3) := by decide +kernel
theorem dd_Wa_isCoveredBy_24 : decode cc_Wa_isCoveredBy 24 = .ok (.goto (-22), 3) := by decide +kernel
theorem dd_Wa_isCoveredBy_27 : decode cc_Wa_isCoveredBy 27 = .ok (.iconst 1, 1) := by decide +kernel
theorem dd_Wa_isCoveredBy_28 : decode cc_Wa_isCoveredBy 28 = .ok (.ireturn, 1) := by decide +kernel
set_option maxRecDepth 100000 in
set_option maxHeartbeats 4000000 in
theorem ct_Wa_isCoveredBy (l : Launch) (E : gf_E) (s : Int) (μ : gf_M) (hs : 0 ≤ s) (hn : 0 ≤ μ 53 2 ∧ μ 53 2 ≤ 85) (hp : ∀ t : Int, 0 ≤ t → t < μ 53 2 → 0 ≤ μ 55 t) : gf_Mi l E yy_Wa_isCoveredBy cc_Wa_isCoveredBy 3 .boolean (gf_rm 1 22) 81 gf_ref μ [.ref (gf_ad E 53), .int (gf_i s)] (fun r μ' => ((r = 1 ↔ ∀ t : Int, 0 ≤ t → t < μ 53 2 → gf_and (μ 55 t) s ≠ 0) ∧ (r = 0 ∨ r = 1)) ∧ μ' = μ) := by
  refine gf_mi (by decide +kernel) (Nat.le_of_ble_eq_true rfl) (by decide) (fun X Q hlx C hQ => ?_)
  subst hlx
  replace C : gf_C X E cc_Wa_isCoveredBy 3 "GuardFigures$Watch" (gf_rm 1 22) := C
  show gf_G X E Q 3 gf_φ μ 0 [(0, .ref (gf_ad E 53)), (1, .int (gf_i s))] []
  refine gf_iconst C dd_Wa_isCoveredBy_0 ?_
  refine gf_istore_n (lv' := [(2, .int (gf_i 0)), (0, .ref (gf_ad E 53)), (1, .int (gf_i s))]) C dd_Wa_isCoveredBy_1 (by decide) rfl ?_
  have L2_1 : ∀ (N : Nat) (t : Int) , (0 ≤ t ∧ t ≤ μ 53 2 ∧ ∀ u : Int, 0 ≤ u → u < t → gf_and (μ 55 u) s ≠ 0) → (88 - t).toNat < N → gf_G X E Q 3 gf_φ μ 2 [(2, .int (gf_i t)), (0, .ref (gf_ad E 53)), (1, .int (gf_i s))] [] := by
    intro N
    induction N with
    | zero => intro t hinv hN; exact absurd hN (Nat.not_lt_zero _)
    | succ N ih2_1 =>
      intro t hinv hN
      have hinv0 := hinv
      obtain ⟨ht0, ht1, htu⟩ := hinv
      refine gf_iload_n C dd_Wa_isCoveredBy_2 0 rfl ?_
      refine gf_aload_n C dd_Wa_isCoveredBy_3 1 rfl ?_
      refine gf_getI (z := 2) C gf_cl4 fl_Wa_46 dd_Wa_isCoveredBy_4 rfl rfl (show gf_is 81 53 0 4 6 by decide) (fun hv4 => ?_)
      refine gf_icmp_ge 27 C dd_Wa_isCoveredBy_7 (by decide) (by omega) (by omega) (fun h7 => ?_) (fun h7 => ?_)
      · skip
        refine gf_iconst C dd_Wa_isCoveredBy_27 ?_
        refine gf_zret C hQ dd_Wa_isCoveredBy_28 (by omega) ?_
        exact ⟨⟨⟨fun _ u h0 h1 => htu u h0 (by omega), fun _ => rfl⟩, by omega⟩, rfl⟩
      · skip
        refine gf_aload_n C dd_Wa_isCoveredBy_10 1 rfl ?_
        refine gf_iload_n C dd_Wa_isCoveredBy_11 0 rfl ?_
        refine gf_iload_n C dd_Wa_isCoveredBy_12 2 rfl ?_
        refine gf_callVi (st := []) (As := [.int (gf_i t), .int (gf_i s)]) C wk_Wa_61 gf_cl4 (show gf_is 81 53 0 4 6 by decide) (ct_Wa_isNoticed (gf_xl X) E t s μ (by omega) (by omega) (hp t (by omega) (by omega))) rfl ⟨rfl, rfl, rfl, rfl⟩ (Nat.le_of_ble_eq_true rfl) rfl dd_Wa_isCoveredBy_13 (fun r13 m13 hR13 hp13 => ?_)
        have hr13 := hp13.1
        refine gf_pm hp13.2 ?_
        refine gf_if_ne 21 C dd_Wa_isCoveredBy_16 (by decide) (by omega) (fun h16 => ?_) (fun h16 => ?_)
        · skip
          obtain ⟨x21, hx21⟩ : ∃ y : Int, y = t + 1 := ⟨_, rfl⟩
          refine gf_iinc (q := 0) (v := x21) (lv' := [(2, .int (gf_i x21)), (0, .ref (gf_ad E 53)), (1, .int (gf_i s))]) C dd_Wa_isCoveredBy_21 rfl hx21 (by decide) rfl ?_
          refine gf_goto 2 C dd_Wa_isCoveredBy_24 (by decide) ?_
          refine gf_lsub [0, 1, 2] rfl ?_
          exact ih2_1 x21 (by
                  refine ⟨by omega, by omega, fun u h0 h1 => ?_⟩
                  by_cases e : u = t
                  · subst e
                    intro z
                    have := hr13.1 z
                    omega
                  · exact htu u h0 (by omega)) (by omega)
        · skip
          refine gf_iconst C dd_Wa_isCoveredBy_19 ?_
          refine gf_zret C hQ dd_Wa_isCoveredBy_20 (by omega) ?_
          refine ⟨⟨⟨fun h => by omega, fun h => ?_⟩, by omega⟩, rfl⟩
          have := hr13.2 (h t (by omega) (by omega))
          omega
  refine gf_lsub [0, 1, 2] rfl ?_
  exact L2_1 _ 0 (⟨by omega, by omega, fun u h0 h1 => by omega⟩) (Nat.lt_succ_self _)
end
section
theorem dd_Wa_look_0 : decode cc_Wa_look 0 = .ok (.aload_n 0, 1) := by decide +kernel
theorem dd_Wa_look_1 : decode cc_Wa_look 1 = .ok (.aload_n 1, 1) := by decide +kernel
theorem dd_Wa_look_2 : decode cc_Wa_look 2 = .ok (.invokevirtual 27, 3) := by decide +kernel
theorem dd_Wa_look_5 : decode cc_Wa_look 5 = .ok (.iload_n 3, 1) := by decide +kernel
theorem dd_Wa_look_6 : decode cc_Wa_look 6 = .ok (.istore 5, 2) := by decide +kernel
theorem dd_Wa_look_8 : decode cc_Wa_look 8 = .ok (.iload 5, 2) := by decide +kernel
theorem dd_Wa_look_10 : decode cc_Wa_look 10 = .ok (.iload 4, 2) := by decide +kernel
theorem dd_Wa_look_12 : decode cc_Wa_look 12 = .ok (.if_icmp .ge 31, 3) := by decide +kernel
theorem dd_Wa_look_15 : decode cc_Wa_look 15 = .ok (.aload_n 0, 1) := by decide +kernel
theorem dd_Wa_look_16 : decode cc_Wa_look 16 = .ok (.getfield 24, 3) := by decide +kernel
theorem dd_Wa_look_19 : decode cc_Wa_look 19 = .ok (.iload 5, 2) := by decide +kernel
theorem dd_Wa_look_21 : decode cc_Wa_look 21 = .ok (.aload_n 2, 1) := by decide +kernel
theorem dd_Wa_look_22 : decode cc_Wa_look 22 = .ok (.iload 5, 2) := by decide +kernel
theorem dd_Wa_look_24 : decode cc_Wa_look 24 = .ok (.aaload, 1) := by decide +kernel
theorem dd_Wa_look_25 : decode cc_Wa_look 25 = .ok (.aload_n 1, 1) := by decide +kernel
theorem dd_Wa_look_26 : decode cc_Wa_look 26 = .ok (.getfield 31, 3) := by decide +kernel
theorem dd_Wa_look_29 : decode cc_Wa_look 29 = .ok (.aload_n 1, 1) := by decide +kernel
theorem dd_Wa_look_30 : decode cc_Wa_look 30 = .ok (.getfield 36, 3) := by decide +kernel
theorem dd_Wa_look_33 : decode cc_Wa_look 33 = .ok (.invokevirtual 40, 3) := by decide +kernel
theorem dd_Wa_look_36 : decode cc_Wa_look 36 = .ok (.iastore, 1) := by decide +kernel
theorem dd_Wa_look_37 : decode cc_Wa_look 37 = .ok (.iinc 5 1, 3) := by decide +kernel
theorem dd_Wa_look_40 : decode cc_Wa_look 40 = .ok (.goto (-32), 3) := by decide +kernel
theorem dd_Wa_look_43 : decode cc_Wa_look 43 = .ok (.iconst 0, 1) := by decide +kernel
theorem dd_Wa_look_44 : decode cc_Wa_look 44 = .ok (.istore 5, 2) := by decide +kernel
theorem dd_Wa_look_46 : decode cc_Wa_look 46 = .ok (.iload 5, 2) := by decide +kernel
theorem dd_Wa_look_48 : decode cc_Wa_look 48 = .ok (.aload_n 0, 1) := by decide +kernel
theorem dd_Wa_look_49 : decode cc_Wa_look 49 = .ok (.getfield 46, 3) := by decide +kernel
theorem dd_Wa_look_52 : decode cc_Wa_look 52 = .ok (.if_icmp .ge 71, 3) := by decide +kernel
theorem dd_Wa_look_55 : decode cc_Wa_look 55 = .ok (.aload_n 0, 1) := by decide +kernel
theorem dd_Wa_look_56 : decode cc_Wa_look 56 = .ok (.iload 5, 2) := by decide +kernel
theorem dd_Wa_look_58 : decode cc_Wa_look 58 = .ok (.aload_n 1, 1) := by decide +kernel
theorem dd_Wa_look_59 : decode cc_Wa_look 59 = .ok (.invokevirtual 49, 3) := by decide +kernel
theorem dd_Wa_look_62 : decode cc_Wa_look 62 = .ok (.iload_n 3, 1) := by decide +kernel
theorem dd_Wa_look_63 : decode cc_Wa_look 63 = .ok (.istore 6, 2) := by decide +kernel
theorem dd_Wa_look_65 : decode cc_Wa_look 65 = .ok (.iload 6, 2) := by decide +kernel
theorem dd_Wa_look_67 : decode cc_Wa_look 67 = .ok (.iload 4, 2) := by decide +kernel
theorem dd_Wa_look_69 : decode cc_Wa_look 69 = .ok (.if_icmp .ge 48, 3) := by decide +kernel
theorem dd_Wa_look_72 : decode cc_Wa_look 72 = .ok (.aload_n 2, 1) := by decide +kernel
theorem dd_Wa_look_73 : decode cc_Wa_look 73 = .ok (.iload 6, 2) := by decide +kernel
theorem dd_Wa_look_75 : decode cc_Wa_look 75 = .ok (.aaload, 1) := by decide +kernel
theorem dd_Wa_look_76 : decode cc_Wa_look 76 = .ok (.aload_n 0, 1) := by decide +kernel
theorem dd_Wa_look_77 : decode cc_Wa_look 77 = .ok (.getfield 21, 3) := by decide +kernel
theorem dd_Wa_look_80 : decode cc_Wa_look 80 = .ok (.aload_n 1, 1) := by decide +kernel
theorem dd_Wa_look_81 : decode cc_Wa_look 81 = .ok (.getfield 36, 3) := by decide +kernel
theorem dd_Wa_look_84 : decode cc_Wa_look 84 = .ok (.invokevirtual 40, 3) := by decide +kernel
theorem dd_Wa_look_87 : decode cc_Wa_look 87 = .ok (.aload_n 0, 1) := by decide +kernel
theorem dd_Wa_look_88 : decode cc_Wa_look 88 = .ok (.getfield 24, 3) := by decide +kernel
theorem dd_Wa_look_91 : decode cc_Wa_look 91 = .ok (.iload 6, 2) := by decide +kernel
theorem dd_Wa_look_93 : decode cc_Wa_look 93 = .ok (.iaload, 1) := by decide +kernel
theorem dd_Wa_look_94 : decode cc_Wa_look 94 = .ok (.if_icmp .eq 17, 3) := by decide +kernel
theorem dd_Wa_look_97 : decode cc_Wa_look 97 = .ok (.aload_n 0, 1) := by decide +kernel
theorem dd_Wa_look_98 : decode cc_Wa_look 98 = .ok (.getfield 15, 3) := by decide +kernel
theorem dd_Wa_look_101 : decode cc_Wa_look 101 = .ok (.iload 5, 2) := by decide +kernel
theorem dd_Wa_look_103 : decode cc_Wa_look 103 = .ok (.dup2, 1) := by decide +kernel
theorem dd_Wa_look_104 : decode cc_Wa_look 104 = .ok (.iaload, 1) := by decide +kernel
theorem dd_Wa_look_105 : decode cc_Wa_look 105 = .ok (.iconst 1, 1) := by decide +kernel
theorem dd_Wa_look_106 : decode cc_Wa_look 106 = .ok (.iload 6, 2) := by decide +kernel
theorem dd_Wa_look_108 : decode cc_Wa_look 108 = .ok (.ishl, 1) := by decide +kernel
theorem dd_Wa_look_109 : decode cc_Wa_look 109 = .ok (.ior, 1) := by decide +kernel
theorem dd_Wa_look_110 : decode cc_Wa_look 110 = .ok (.iastore, 1) := by decide +kernel
theorem dd_Wa_look_111 : decode cc_Wa_look 111 = .ok (.iinc 6 1, 3) := by decide +kernel
theorem dd_Wa_look_114 : decode cc_Wa_look 114 = .ok (.goto (-49), 3) := by decide +kernel
theorem dd_Wa_look_117 : decode cc_Wa_look 117 = .ok (.iinc 5 1, 3) := by decide +kernel
theorem dd_Wa_look_120 : decode cc_Wa_look 120 = .ok (.goto (-74), 3) := by decide +kernel
theorem dd_Wa_look_123 : decode cc_Wa_look 123 = .ok (.return_, 1) := by decide +kernel
set_option maxRecDepth 100000 in
set_option maxHeartbeats 4000000 in
theorem ct_Wa_look (l : Launch) (E : gf_E) (a b : Nat) (c : Int) (μ : gf_M) (hab : a ≤ b) (hb : (b : Int) ≤ c) (hc : c ≤ 7) (hG : gf_okGs μ c) (hs : 0 ≤ μ 41 1 ∧ μ 41 1 ≤ 8) (hF : gf_okF μ 42 (μ 41 1)) : gf_Mv l E yy_Wa_look cc_Wa_look 7 (gf_rm 3 69) 81 gf_ref 0 0 81 gf_ref μ [.ref (gf_ad E 53), .ref (gf_ad E 41), .ref (gf_ad E 23), .int (gf_i a), .int (gf_i b)] (fun μ' => gf_lk μ μ' a b) := by
  refine gf_mv (by decide +kernel) (Nat.le_of_ble_eq_true rfl) (by decide) (fun X Q hlx C hname hQ => ?_)
  subst hlx
  replace C : gf_C X E cc_Wa_look 7 "GuardFigures$Watch" (gf_rm 3 69) := C
  show gf_G X E Q 7 gf_φ μ 0 [(0, .ref (gf_ad E 53)), (1, .ref (gf_ad E 41)), (2, .ref (gf_ad E 23)), (3, .int (gf_i a)), (4, .int (gf_i b))] []
  have h88 := pf_T_88 hs hF
  refine gf_aload_n C dd_Wa_look_0 0 rfl ?_
  refine gf_aload_n C dd_Wa_look_1 1 rfl ?_
  refine gf_callVv (st := []) (As := [.ref (gf_ad E 41)]) C wk_Wa_27 gf_cl4 (show gf_is 81 53 0 4 6 by decide) (ct_Wa_listThings (gf_xl X) E μ (by omega) (hF)) rfl ⟨rfl, rfl, rfl, rfl⟩ (Nat.le_of_ble_eq_true rfl) rfl dd_Wa_look_2 (fun m2 hp2 => ?_)
  obtain ⟨hl2, he20, he21, he22⟩ := hp2
  have hfr2 := hl2.2.2.2
  refine gf_iload_n C dd_Wa_look_5 3 rfl ?_
  refine gf_istore (lv' := [(5, .int (gf_i a)), (0, .ref (gf_ad E 53)), (1, .ref (gf_ad E 41)), (2, .ref (gf_ad E 23)), (3, .int (gf_i a)), (4, .int (gf_i b))]) C dd_Wa_look_6 (by decide) rfl ?_
  have L8_1 : ∀ (N : Nat) (i : Int) (m : gf_M) , ((a : Int) ≤ i ∧ i ≤ b ∧ (∀ j : Int, (a : Int) ≤ j → j < i → m 58 j = pf_reck (μ (24 + j) 0) (μ (24 + j) 1) (μ (24 + j) 2) (μ 42) (μ 41 1)) ∧ ∀ x y : Int, x ≠ 58 → m x y = m2 x y) → ((b : Int) - i).toNat < N → gf_G X E Q 7 gf_φ m 8 [(5, .int (gf_i i)), (0, .ref (gf_ad E 53)), (1, .ref (gf_ad E 41)), (2, .ref (gf_ad E 23)), (3, .int (gf_i a)), (4, .int (gf_i b))] [] := by
    intro N
    induction N with
    | zero => intro i m hinv hN; exact absurd hN (Nat.not_lt_zero _)
    | succ N ih8_1 =>
      intro i m hinv hN
      have hinv0 := hinv
      obtain ⟨hi0, hi1, hi2, hi3⟩ := hinv
      have e41 : m 41 1 = μ 41 1 := by rw [hi3 41 1 (by decide), hfr2 41 1 (by decide)]
      have e42 : m 42 = μ 42 := funext fun y => by rw [hi3 42 y (by decide), hfr2 42 y (by decide)]
      have hF2 : gf_okF m 42 (m 41 1) := by rw [e41]; intro j h0 h1; rw [e42]; exact hF j h0 h1
      refine gf_iload C dd_Wa_look_8 0 rfl ?_
      refine gf_iload C dd_Wa_look_10 5 rfl ?_
      refine gf_icmp_ge 43 C dd_Wa_look_12 (by decide) (by omega) (by omega) (fun h12 => ?_) (fun h12 => ?_)
      · skip
        obtain ⟨mA, hmA⟩ : ∃ z, z = m := ⟨_, rfl⟩
        have hAd : ∀ j : Int, (a : Int) ≤ j → j < b → mA 58 j = pf_reck (μ (24 + j) 0) (μ (24 + j) 1) (μ (24 + j) 2) (μ 42) (μ 41 1) := fun j h0 h1 => by rw [hmA]; exact hi2 j h0 (by omega)
        have hAfr : ∀ x y : Int, x ≠ 58 → mA x y = m2 x y := fun x y h => by rw [hmA]; exact hi3 x y h
        have eA41 : mA 41 1 = μ 41 1 := by rw [hmA]; exact e41
        have eA42 : mA 42 = μ 42 := by rw [hmA]; exact e42
        have hthA : mA 53 2 = ((pf_T (μ 42) (μ 41 1)).length : Int) := by rw [hAfr 53 2 (by decide), hl2.1, ← pf_T_fst, List.length_map]
        clear hi2 hi3 e41 e42 hF2
        refine gf_iconst C dd_Wa_look_43 ?_
        refine gf_istore (lv' := [(5, .int (gf_i 0)), (0, .ref (gf_ad E 53)), (1, .ref (gf_ad E 41)), (2, .ref (gf_ad E 23)), (3, .int (gf_i a)), (4, .int (gf_i b))]) C dd_Wa_look_44 (by decide) rfl ?_
        have L46_2 : ∀ (N : Nat) (t : Int) (m : gf_M) , (0 ≤ t ∧ t ≤ ((pf_T (μ 42) (μ 41 1)).length : Int) ∧ (∀ (s : Nat) (q : Int × (Int → Int)), (pf_T (μ 42) (μ 41 1))[s]? = some q → ((s : Int) < t → m 55 s = ((pf_nb (pf_no μ (μ 42) (μ 41 1) q.2) a (b - a) : Nat) : Int)) ∧ (t ≤ (s : Int) → m 55 s = 0)) ∧ ∀ x y : Int, x ≠ 55 → x ≠ 57 → m x y = mA x y) → (88 - t).toNat < N → gf_G X E Q 7 gf_φ m 46 [(5, .int (gf_i t)), (0, .ref (gf_ad E 53)), (1, .ref (gf_ad E 41)), (2, .ref (gf_ad E 23)), (3, .int (gf_i a)), (4, .int (gf_i b))] [] := by
          intro N
          induction N with
          | zero => intro t m hinv hN; exact absurd hN (Nat.not_lt_zero _)
          | succ N ih46_2 =>
            intro t m hinv hN
            have hinv0 := hinv
            obtain ⟨ht0, ht1, ht2, ht3⟩ := hinv
            have hthm : m 53 2 = ((pf_T (μ 42) (μ 41 1)).length : Int) := by rw [ht3 53 2 (by decide) (by decide)]; exact hthA
            have e41 : m 41 1 = μ 41 1 := by rw [ht3 41 1 (by decide) (by decide)]; exact eA41
            have hm42 : ∀ y : Int, m 42 y = μ 42 y := fun y => by rw [ht3 42 y (by decide) (by decide)]; exact congrFun eA42 y
            have hE0 : m 56 0 = ((pf_sl (μ 42) (μ 41 1).toNat).length : Int) := by rw [ht3 56 0 (by decide) (by decide), hAfr 56 0 (by decide)]; exact he20
            have hE1 : m 56 1 = ((pf_sl (μ 42) (μ 41 1).toNat).length : Int) + ((pf_ex (μ 42) 1 (μ 41 1 - 1).toNat).length : Int) := by rw [ht3 56 1 (by decide) (by decide), hAfr 56 1 (by decide)]; exact he21
            refine gf_iload C dd_Wa_look_46 0 rfl ?_
            refine gf_aload_n C dd_Wa_look_48 1 rfl ?_
            refine gf_getI (z := 2) C gf_cl4 fl_Wa_46 dd_Wa_look_49 rfl rfl (show gf_is 81 53 0 4 6 by decide) (fun hv49 => ?_)
            refine gf_icmp_ge 123 C dd_Wa_look_52 (by decide) (by omega) (by omega) (fun h52 => ?_) (fun h52 => ?_)
            · skip
              refine gf_vret C hQ dd_Wa_look_123 ?_
              refine ⟨?_, fun s q hq => ⟨?_, ?_⟩, ?_, ?_, ?_, fun x y h => ?_⟩
              · exact hthm
              · rw [ht3 54 s (by decide) (by decide), hAfr 54 s (by decide)]
                exact pf_T_lst hl2.2.1 hq
              · have h1 := (List.getElem?_eq_some_iff.mp hq).1
                exact (ht2 s q hq).1 (by omega)
              · exact hE0
              · exact hE1
              · rw [ht3 56 2 (by decide) (by decide), hAfr 56 2 (by decide)]; exact he22
              · rw [ht3 x y (by omega) (by omega), hAfr x y (by omega)]; exact hfr2 x y (by omega)
            · skip
              have hlt : t.toNat < (pf_T (μ 42) (μ 41 1)).length := by omega
              obtain ⟨q, hTq⟩ : ∃ q, (pf_T (μ 42) (μ 41 1))[t.toNat]? = some q := ⟨_, List.getElem?_eq_getElem hlt⟩
              have hmk : m 54 t = q.1 := by
                have := pf_T_lst hl2.2.1 hTq
                rw [show ((t.toNat : Nat) : Int) = t by omega] at this
                rw [ht3 54 t (by decide) (by decide), hAfr 54 t (by decide)]; exact this
              refine gf_aload_n C dd_Wa_look_55 1 rfl ?_
              refine gf_iload C dd_Wa_look_56 0 rfl ?_
              refine gf_aload_n C dd_Wa_look_58 2 rfl ?_
              refine gf_callVv (st := []) (As := [.int (gf_i t), .ref (gf_ad E 41)]) C wk_Wa_49 gf_cl4 (show gf_is 81 53 0 4 6 by decide) (ct_Wa_copyWith (gf_xl X) E t q (μ 42) (μ 41 1) m ht0 hTq ⟨by omega, hs⟩ (fun j _ _ => (hm42 j).symm) hF hmk hE0 hE1) rfl ⟨rfl, rfl, rfl, rfl⟩ (Nat.le_of_ble_eq_true rfl) rfl dd_Wa_look_59 (fun m59 hp59 => ?_)
              obtain ⟨hp59a, hp59b⟩ := hp59
              refine gf_iload_n C dd_Wa_look_62 4 rfl ?_
              refine gf_istore (lv' := [(6, .int (gf_i a)), (5, .int (gf_i t)), (0, .ref (gf_ad E 53)), (1, .ref (gf_ad E 41)), (2, .ref (gf_ad E 23)), (3, .int (gf_i a)), (4, .int (gf_i b))]) C dd_Wa_look_63 (by decide) rfl ?_
              have L65_3 : ∀ (N : Nat) (i : Int) (m' : gf_M) , ((a : Int) ≤ i ∧ i ≤ b ∧ m' 55 t = ((pf_nb (pf_no μ (μ 42) (μ 41 1) q.2) a (i - (a : Int)).toNat : Nat) : Int) ∧ ∀ x y : Int, ¬ (x = 55 ∧ y = t) → m' x y = m59 x y) → ((b : Int) - i).toNat < N → gf_G X E Q 7 gf_φ m' 65 [(6, .int (gf_i i)), (5, .int (gf_i t)), (0, .ref (gf_ad E 53)), (1, .ref (gf_ad E 41)), (2, .ref (gf_ad E 23)), (3, .int (gf_i a)), (4, .int (gf_i b))] [] := by
                intro N
                induction N with
                | zero => intro i m' hinv hN; exact absurd hN (Nat.not_lt_zero _)
                | succ N ih65_3 =>
                  intro i m' hinv hN
                  have hinv0 := hinv
                  obtain ⟨hi0, hi1, hi2, hi3⟩ := hinv
                  have e41' : m' 41 1 = μ 41 1 := by rw [hi3 41 1 (by omega), hp59b 41 1 (by decide)]; exact e41
                  have eA : ∀ x y : Int, x ≠ 55 → x ≠ 57 → m' x y = mA x y := fun x y h1 h2 => by rw [hi3 x y (by omega), hp59b x y h2]; exact ht3 x y h1 h2
                  have e57 : ∀ j : Int, 0 ≤ j → j < μ 41 1 → m' 57 j = q.2 j ∧ 0 ≤ q.2 j ∧ q.2 j ≤ 9 := fun j h0 h1 => by rw [hi3 57 j (by omega)]; exact hp59a j h0 h1
                  have hFc : gf_okF m' 57 (m' 41 1) := by rw [e41']; intro j h0 h1; have := e57 j h0 h1; omega
                  have hnl := pf_nb_lt (pf_no μ (μ 42) (μ 41 1) q.2) a (i - (a : Int)).toNat
                  have hn7 := pf_pow7 (i := a + (i - (a : Int)).toNat) (by omega)
                  refine gf_iload C dd_Wa_look_65 0 rfl ?_
                  refine gf_iload C dd_Wa_look_67 6 rfl ?_
                  refine gf_icmp_ge 117 C dd_Wa_look_69 (by decide) (by omega) (by omega) (fun h69 => ?_) (fun h69 => ?_)
                  · skip
                    obtain ⟨x117, hx117⟩ : ∃ y : Int, y = t + 1 := ⟨_, rfl⟩
                    refine gf_iinc (q := 1) (v := x117) (lv' := [(5, .int (gf_i x117)), (6, .int (gf_i i)), (0, .ref (gf_ad E 53)), (1, .ref (gf_ad E 41)), (2, .ref (gf_ad E 23)), (3, .int (gf_i a)), (4, .int (gf_i b))]) C dd_Wa_look_117 rfl hx117 (by decide) rfl ?_
                    refine gf_goto 46 C dd_Wa_look_120 (by decide) ?_
                    refine gf_lsub [0, 2, 3, 4, 5, 6] rfl ?_
                    exact ih46_2 x117 m' (by
                              refine ⟨by omega, by omega, fun s q' hq' => ⟨fun h => ?_, fun h => ?_⟩, fun x y h1 h2 => by rw [hi3 x y (by omega), hp59b x y h2]; exact ht3 x y h1 h2⟩
                              · by_cases e : (s : Int) = t
                                · have es : s = t.toNat := by omega
                                  subst es
                                  have : q' = q := Option.some.inj (hq'.symm.trans hTq)
                                  subst this
                                  rw [e, hi2, show (i - (a : Int)).toNat = b - a by omega]
                                · rw [hi3 55 s (by omega), hp59b 55 s (by decide)]
                                  exact (ht2 s q' hq').1 (by omega)
                              · rw [hi3 55 s (by omega), hp59b 55 s (by decide)]
                                exact (ht2 s q' hq').2 (by omega)) (by omega)
                  · skip
                    refine gf_aload_n C dd_Wa_look_72 4 rfl ?_
                    have hGi0 := hG i (by omega) (by omega)
                    have eg : ∀ y : Int, m' (24 + i) y = μ (24 + i) y := fun y => by rw [eA (24 + i) y (by omega) (by omega), hAfr (24 + i) y (by omega)]; exact hfr2 (24 + i) y (by omega)
                    have hGi : gf_okG m' (24 + i) := by unfold gf_okG; rw [eg 0, eg 1, eg 2]; exact hGi0
                    have hshi := gf_shl1 (i := i) (by omega)
                    have hsh7 : gf_shl 1 i < 128 := by
                      unfold gf_shl
                      have : i = 0 ∨ i = 1 ∨ i = 2 ∨ i = 3 ∨ i = 4 ∨ i = 5 ∨ i = 6 := by omega
                      rcases this with h | h | h | h | h | h | h <;> rw [h] <;> decide
                    refine gf_iload C dd_Wa_look_73 0 rfl ?_
                    have ha75 := gf_guard_of (r := i) (by omega)
                    refine gf_aald C dd_Wa_look_75 (show gf_is 81 23 4 4 7 by decide) (by decide) (by omega) ha75.1 (by omega) ?_
                    refine gf_aload_n C dd_Wa_look_76 2 rfl ?_
                    refine gf_getA (r := 57) C gf_cl4 fl_Wa_21 dd_Wa_look_77 rfl (show gf_is 81 53 0 4 6 by decide) (by decide) (by decide) ?_
                    refine gf_aload_n C dd_Wa_look_80 3 rfl ?_
                    refine gf_getI (z := 1) C gf_cl5 fl_Wa_36 dd_Wa_look_81 rfl rfl (show gf_is 81 41 0 5 5 by decide) (fun hv81 => ?_)
                    refine gf_callVi (st := []) (As := [.ref (gf_ad E 57), .int (gf_i (m' 41 1))]) C wk_Wa_40 gf_cl0 ha75.2 (ct_Gd_reckon (gf_xl X) E (24 + i) 57 (m' 41 1) 8 m' ha75.2 hGi (by decide) (by omega) hFc) rfl ⟨rfl, rfl, rfl, rfl⟩ (Nat.le_of_ble_eq_true rfl) rfl dd_Wa_look_84 (fun r84 m84 hR84 hp84 => ?_)
                    have hr84 := hp84.1
                    refine gf_pm hp84.2 ?_
                    refine gf_aload_n C dd_Wa_look_87 2 rfl ?_
                    refine gf_getA (r := 58) C gf_cl4 fl_Wa_24 dd_Wa_look_88 rfl (show gf_is 81 53 0 4 6 by decide) (by decide) (by decide) ?_
                    refine gf_iload C dd_Wa_look_91 0 rfl ?_
                    refine gf_iald C dd_Wa_look_93 (show gf_is 81 58 1 0 7 by decide) (by omega) (fun hv93 => ?_)
                    refine gf_icmp_eq 111 C dd_Wa_look_94 (by decide) (by omega) (by omega) (fun h94 => ?_) (fun h94 => ?_)
                    · skip
                      obtain ⟨x111, hx111⟩ : ∃ y : Int, y = i + 1 := ⟨_, rfl⟩
                      refine gf_iinc (q := 0) (v := x111) (lv' := [(6, .int (gf_i x111)), (5, .int (gf_i t)), (0, .ref (gf_ad E 53)), (1, .ref (gf_ad E 41)), (2, .ref (gf_ad E 23)), (3, .int (gf_i a)), (4, .int (gf_i b))]) C dd_Wa_look_111 rfl hx111 (by decide) rfl ?_
                      refine gf_goto 65 C dd_Wa_look_114 (by decide) ?_
                      refine gf_lsub [0, 1, 2, 3, 4, 5, 6] rfl ?_
                      exact ih65_3 x111 m' (by
                                  have e1 : (i + 1 - (a : Int)).toNat = (i - (a : Int)).toNat + 1 := by omega
                                  have ei : a + (i - (a : Int)).toNat = i.toNat := by omega
                                  have eI : ((i.toNat : Nat) : Int) = i := by omega
                                  have er : pf_reck (μ (24 + i) 0) (μ (24 + i) 1) (μ (24 + i) 2) (m' 57) (μ 41 1) = pf_reck (μ (24 + i) 0) (μ (24 + i) 1) (μ (24 + i) 2) q.2 (μ 41 1) := pf_reck_congr (fun j h0 h1 => (e57 j h0 h1).1)
                                  have hr84' := hr84.1
                                  rw [e41', eg 0, eg 1, eg 2, er] at hr84'
                                  have hd' : m' 58 i = pf_reck (μ (24 + i) 0) (μ (24 + i) 1) (μ (24 + i) 2) (μ 42) (μ 41 1) := by rw [eA 58 i (by decide) (by decide)]; exact hAd i (by omega) (by omega)
                                  have hno : pf_no μ (μ 42) (μ 41 1) q.2 (a + (i - (a : Int)).toNat) = decide (r84 ≠ m' 58 i) := by
                                    rw [ei]; unfold pf_no; rw [eI, ← hr84', ← hd']
                                  first
                                  | (refine ⟨by omega, by omega, ?_, hi3⟩
                                     rw [hx111, e1, hi2]
                                     show _ = ((if pf_no μ (μ 42) (μ 41 1) q.2 (a + (i - (a : Int)).toNat) = true then _ else _ : Nat) : Int)
                                     rw [if_neg (by rw [hno]; simpa using h94)])
                                  | (refine ⟨by omega, by omega, ?_, fun x y h => ?_⟩
                                     · rw [hx111, e1, hm110, gf_up_s]
                                       show _ = ((if pf_no μ (μ 42) (μ 41 1) q.2 (a + (i - (a : Int)).toNat) = true then _ else _ : Nat) : Int)
                                       rw [if_pos (by rw [hno]; simpa using h94), hi2]
                                       unfold gf_or gf_shl
                                       rw [Int.toNat_natCast, Int.one_mul, ei]
                                       have e2 : ((2 : Int) ^ i.toNat).toNat = 2 ^ i.toNat := by
                                         have : ((2 : Int) ^ i.toNat) = ((2 ^ i.toNat : Nat) : Int) := by simp
                                         rw [this, Int.toNat_natCast]
                                       rw [e2]
                                     · rw [hm110]
                                       by_cases e5 : x = 55
                                       · rw [gf_up_j (fun hy => h ⟨e5, hy⟩)]; exact hi3 x y h
                                       · rw [gf_up_k e5]; exact hi3 x y h)) (by omega)
                    · skip
                      refine gf_aload_n C dd_Wa_look_97 2 rfl ?_
                      refine gf_getA (r := 55) C gf_cl4 fl_Wa_15 dd_Wa_look_98 rfl (show gf_is 81 53 0 4 6 by decide) (by decide) (by decide) ?_
                      refine gf_iload C dd_Wa_look_101 1 rfl ?_
                      refine gf_dup2 C dd_Wa_look_103 rfl rfl ?_
                      refine gf_iald C dd_Wa_look_104 (show gf_is 81 55 1 0 88 by decide) (by omega) (fun hv104 => ?_)
                      refine gf_iconst C dd_Wa_look_105 ?_
                      refine gf_iload C dd_Wa_look_106 0 rfl ?_
                      refine gf_ishl C dd_Wa_look_108 (by omega) ?_
                      refine gf_ior C dd_Wa_look_109 (by omega) ?_
                      refine gf_iast C dd_Wa_look_110 (show gf_is 81 55 1 0 88 by decide) (by omega) (by unfold gf_or; have := Nat.or_lt_two_pow (n := 7) (x := (m' 55 t).toNat) (y := (gf_shl 1 i).toNat) (by omega) (by omega); omega) ?_
                      refine gf_nmM (fun m110 hm110 => ?_)
                      obtain ⟨x111, hx111⟩ : ∃ y : Int, y = i + 1 := ⟨_, rfl⟩
                      refine gf_iinc (q := 0) (v := x111) (lv' := [(6, .int (gf_i x111)), (5, .int (gf_i t)), (0, .ref (gf_ad E 53)), (1, .ref (gf_ad E 41)), (2, .ref (gf_ad E 23)), (3, .int (gf_i a)), (4, .int (gf_i b))]) C dd_Wa_look_111 rfl hx111 (by decide) rfl ?_
                      refine gf_goto 65 C dd_Wa_look_114 (by decide) ?_
                      refine gf_lsub [0, 1, 2, 3, 4, 5, 6] rfl ?_
                      exact ih65_3 x111 m110 (by
                                  have e1 : (i + 1 - (a : Int)).toNat = (i - (a : Int)).toNat + 1 := by omega
                                  have ei : a + (i - (a : Int)).toNat = i.toNat := by omega
                                  have eI : ((i.toNat : Nat) : Int) = i := by omega
                                  have er : pf_reck (μ (24 + i) 0) (μ (24 + i) 1) (μ (24 + i) 2) (m' 57) (μ 41 1) = pf_reck (μ (24 + i) 0) (μ (24 + i) 1) (μ (24 + i) 2) q.2 (μ 41 1) := pf_reck_congr (fun j h0 h1 => (e57 j h0 h1).1)
                                  have hr84' := hr84.1
                                  rw [e41', eg 0, eg 1, eg 2, er] at hr84'
                                  have hd' : m' 58 i = pf_reck (μ (24 + i) 0) (μ (24 + i) 1) (μ (24 + i) 2) (μ 42) (μ 41 1) := by rw [eA 58 i (by decide) (by decide)]; exact hAd i (by omega) (by omega)
                                  have hno : pf_no μ (μ 42) (μ 41 1) q.2 (a + (i - (a : Int)).toNat) = decide (r84 ≠ m' 58 i) := by
                                    rw [ei]; unfold pf_no; rw [eI, ← hr84', ← hd']
                                  first
                                  | (refine ⟨by omega, by omega, ?_, hi3⟩
                                     rw [hx111, e1, hi2]
                                     show _ = ((if pf_no μ (μ 42) (μ 41 1) q.2 (a + (i - (a : Int)).toNat) = true then _ else _ : Nat) : Int)
                                     rw [if_neg (by rw [hno]; simpa using h94)])
                                  | (refine ⟨by omega, by omega, ?_, fun x y h => ?_⟩
                                     · rw [hx111, e1, hm110, gf_up_s]
                                       show _ = ((if pf_no μ (μ 42) (μ 41 1) q.2 (a + (i - (a : Int)).toNat) = true then _ else _ : Nat) : Int)
                                       rw [if_pos (by rw [hno]; simpa using h94), hi2]
                                       unfold gf_or gf_shl
                                       rw [Int.toNat_natCast, Int.one_mul, ei]
                                       have e2 : ((2 : Int) ^ i.toNat).toNat = 2 ^ i.toNat := by
                                         have : ((2 : Int) ^ i.toNat) = ((2 ^ i.toNat : Nat) : Int) := by simp
                                         rw [this, Int.toNat_natCast]
                                       rw [e2]
                                     · rw [hm110]
                                       by_cases e5 : x = 55
                                       · rw [gf_up_j (fun hy => h ⟨e5, hy⟩)]; exact hi3 x y h
                                       · rw [gf_up_k e5]; exact hi3 x y h)) (by omega)
              refine gf_lsub [0, 1, 2, 3, 4, 5, 6] rfl ?_
              exact L65_3 _ a m59 (by
                        refine ⟨by omega, by omega, ?_, fun x y _ => rfl⟩
                        rw [hp59b 55 t (by decide), show ((a : Int) - (a : Int)).toNat = 0 by omega]
                        have := (ht2 t.toNat q hTq).2 (by omega)
                        rw [show ((t.toNat : Nat) : Int) = t by omega] at this
                        rw [this]
                        rfl) (Nat.lt_succ_self _)
        refine gf_lsub [0, 1, 2, 3, 4, 5] rfl ?_
        exact L46_2 _ 0 m (by
            refine ⟨by omega, by omega, fun s q hq => ⟨fun h => by omega, fun _ => ?_⟩, fun x y _ _ => by rw [hmA]⟩
            rw [← hmA, hAfr 55 s (by decide)]
            refine hl2.2.2.1 s (by omega) ?_
            have h1 := (List.getElem?_eq_some_iff.mp hq).1
            rw [← pf_T_fst, List.length_map]
            omega) (Nat.lt_succ_self _)
      · skip
        refine gf_aload_n C dd_Wa_look_15 1 rfl ?_
        refine gf_getA (r := 58) C gf_cl4 fl_Wa_24 dd_Wa_look_16 rfl (show gf_is 81 53 0 4 6 by decide) (by decide) (by decide) ?_
        refine gf_iload C dd_Wa_look_19 0 rfl ?_
        refine gf_aload_n C dd_Wa_look_21 3 rfl ?_
        have hGi0 := hG i (by omega) (by omega)
        have eg : ∀ y : Int, m (24 + i) y = μ (24 + i) y := fun y => by rw [hi3 (24 + i) y (by omega)]; exact hfr2 (24 + i) y (by omega)
        have hGi : gf_okG m (24 + i) := by unfold gf_okG; rw [eg 0, eg 1, eg 2]; exact hGi0
        refine gf_iload C dd_Wa_look_22 0 rfl ?_
        have ha24 := gf_guard_of (r := i) (by omega)
        refine gf_aald C dd_Wa_look_24 (show gf_is 81 23 4 4 7 by decide) (by decide) (by omega) ha24.1 (by omega) ?_
        refine gf_aload_n C dd_Wa_look_25 2 rfl ?_
        refine gf_getA (r := 42) C gf_cl5 fl_Wa_31 dd_Wa_look_26 rfl (show gf_is 81 41 0 5 5 by decide) (by decide) (by decide) ?_
        refine gf_aload_n C dd_Wa_look_29 2 rfl ?_
        refine gf_getI (z := 1) C gf_cl5 fl_Wa_36 dd_Wa_look_30 rfl rfl (show gf_is 81 41 0 5 5 by decide) (fun hv30 => ?_)
        skip
        refine gf_callVi (st := [.int (gf_i i), .ref (gf_ad E 58)]) (As := [.ref (gf_ad E 42), .int (gf_i (m 41 1))]) C wk_Wa_40 gf_cl0 ha24.2 (ct_Gd_reckon (gf_xl X) E (24 + i) 42 (m 41 1) 8 m ha24.2 hGi (by decide) (by omega) hF2) rfl ⟨rfl, rfl, rfl, rfl⟩ (Nat.le_of_ble_eq_true rfl) rfl dd_Wa_look_33 (fun r33 m33 hR33 hp33 => ?_)
        have hr33 := hp33.1
        refine gf_pm hp33.2 ?_
        refine gf_iast C dd_Wa_look_36 (show gf_is 81 58 1 0 7 by decide) (by omega) (by omega) ?_
        refine gf_nmM (fun m36 hm36 => ?_)
        obtain ⟨x37, hx37⟩ : ∃ y : Int, y = i + 1 := ⟨_, rfl⟩
        refine gf_iinc (q := 0) (v := x37) (lv' := [(5, .int (gf_i x37)), (0, .ref (gf_ad E 53)), (1, .ref (gf_ad E 41)), (2, .ref (gf_ad E 23)), (3, .int (gf_i a)), (4, .int (gf_i b))]) C dd_Wa_look_37 rfl hx37 (by decide) rfl ?_
        refine gf_goto 8 C dd_Wa_look_40 (by decide) ?_
        refine gf_lsub [0, 1, 2, 3, 4, 5] rfl ?_
        exact ih8_1 x37 m36 (by
                refine ⟨by omega, by omega, fun j h0 h1 => ?_, fun x y h => by rw [hm36, gf_up_k h]; exact hi3 x y h⟩
                rw [hm36]
                by_cases e : j = i
                · rw [e, gf_up_s, hr33.1, e41, e42, eg 0, eg 1, eg 2]
                · rw [gf_up_j e]; exact hi2 j h0 (by omega)) (by omega)
  refine gf_lsub [0, 1, 2, 3, 4, 5] rfl ?_
  exact L8_1 _ a m2 (⟨by omega, by omega, fun j h0 h1 => by omega, fun x y _ => rfl⟩) (Nat.lt_succ_self _)
end
section
/-! Outlook: tables over places and what a guard has so far -/
def pf_dp (st : Nat → Int → (Int → Int) → Int) (e : Int → Int) : Nat → Int → Int
  | 0, s => e s
  | r + 1, s => st r s (pf_dp st e r)
/-- the table's rows from place k on -/
def gf_tb (m : gf_M) (n : Int) (V : Nat → Int → Int) (k : Int) : Prop := ∀ j s : Int, k ≤ j → j ≤ n → 0 ≤ s → s ≤ 10 → m 60 (j * 11 + s) = V (n - j).toNat s
/-- the row of place k as far as s -/
def gf_tr (m : gf_M) (n : Int) (V : Nat → Int → Int) (k s : Int) : Prop := ∀ z : Int, 0 ≤ z → z < s → m 60 (k * 11 + z) = V (n - k).toNat z
theorem gf_tb_keep {m m' : gf_M} {n : Int} {V : Nat → Int → Int} {k s v : Int} (hs : 0 ≤ s ∧ s ≤ 10) (hm : m' = gf_up m 60 (k * 11 + s) v) (h : gf_tb m n V (k + 1)) (h2 : gf_tr m n V k s) (hv : v = V (n - k).toNat s) : gf_tb m' n V (k + 1) ∧ gf_tr m' n V k (s + 1) := by
  subst hm
  refine ⟨fun j z h0 h1 h3 h4 => by rw [gf_up_j (by omega)]; exact h j z h0 h1 h3 h4, fun z h0 h1 => ?_⟩
  by_cases e : z = s
  · rw [e, gf_up_s, hv]
  · rw [gf_up_j (by omega)]; exact h2 z h0 (by omega)
theorem gf_tb_row {m : gf_M} {n : Int} {V : Nat → Int → Int} {k : Int} (h : gf_tb m n V (k + 1)) (h2 : gf_tr m n V k 11) : gf_tb m n V k := by
  intro j s h0 h1 h3 h4
  by_cases e : j = k
  · rw [e]; exact h2 s h3 (by omega)
  · exact h j s (by omega) h1 h3 h4
/-- the least of the first values of g, 100 at most -/
def pf_minf (g : Int → Int) : Nat → Int
  | 0 => 100
  | f + 1 => gf_min (pf_minf g f) (g f)
theorem pf_minf_R {g : Int → Int} : ∀ n : Nat, (∀ f : Int, 0 ≤ f → f < n → 0 ≤ g f) → 0 ≤ pf_minf g n ∧ pf_minf g n ≤ 100
  | 0, _ => by simp [pf_minf]
  | n + 1, h => by
    have ih := pf_minf_R n (fun f h0 h1 => h f h0 (by omega))
    have := h n (by omega) (by omega)
    unfold pf_minf gf_min
    split <;> omega
theorem pf_minf_congr {g h : Int → Int} : ∀ n : Nat, (∀ f : Int, 0 ≤ f → f < n → g f = h f) → pf_minf g n = pf_minf h n
  | 0, _ => rfl
  | n + 1, e => by unfold pf_minf; rw [pf_minf_congr n (fun f h0 h1 => e f h0 (by omega)), e n (by omega) (by omega)]
/-- one step of the fewest others: K, F, S the guard, x the number's figures -/
def pf_oth (K F S n : Int) (x : Int → Int) (k s f : Int) (nx : Int → Int) : Int := (if f = x k then 0 else 1) + nx (pf_fol K F S s k f n)
def pf_stN (K F S n : Int) (x : Int → Int) (r : Nat) (s : Int) (nx : Int → Int) : Int := pf_minf (fun f => pf_oth K F S n x (n - 1 - r) s f nx) 10
def pf_eC (K n c a b : Int) (s : Int) : Int := if pf_fin K s n = c then a else b
def pf_VN (K F S n c : Int) (x : Int → Int) : Nat → Int → Int := pf_dp (pf_stN K F S n x) (pf_eC K n c 0 100)
theorem pf_VN_R (K F S n c : Int) (x : Int → Int) : ∀ (r : Nat) (s : Int), 0 ≤ s ∧ s ≤ 10 → 0 ≤ pf_VN K F S n c x r s ∧ pf_VN K F S n c x r s ≤ 100
  | 0, s, _ => by unfold pf_VN pf_dp pf_eC; split <;> omega
  | r + 1, s, _ => by
    show 0 ≤ pf_minf _ 10 ∧ pf_minf _ 10 ≤ 100
    refine pf_minf_R 10 (fun f h0 h1 => ?_)
    have := pf_VN_R K F S n c x r (pf_fol K F S s (n - 1 - r) f n) (pf_fol_R _ _ _ _ _ _ _)
    unfold pf_oth
    have h3 : 0 ≤ pf_dp (pf_stN K F S n x) (pf_eC K n c 0 100) r (pf_fol K F S s (n - 1 - r) f n) := this.1
    split <;> omega
/-- the first figure from a on at which p holds, b further on at most -/
def pf_pick (p : Int → Bool) : Nat → Int → Int
  | 0, a => a
  | b + 1, a => if p a = true then a else pf_pick p b (a + 1)
/-- the path that is found: what the guard has so far, and the number -/
def pf_run (K F S n : Int) (pk : Int → Int → Int) : Nat → Int × Int
  | 0 => (0, 0)
  | k + 1 => (pf_fol K F S (pf_run K F S n pk k).1 k (pk k (pf_run K F S n pk k).1) n, (pf_run K F S n pk k).2 * 10 + pk k (pf_run K F S n pk k).1)
theorem pf_run_R (K F S n : Int) (pk : Int → Int → Int) (k : Nat) : 0 ≤ (pf_run K F S n pk k).1 ∧ (pf_run K F S n pk k).1 ≤ 10 := by
  cases k with
  | zero => simp [pf_run]
  | succ k => exact pf_fol_R _ _ _ _ _ _ _
theorem pf_pick_R (p : Int → Bool) : ∀ (b : Nat) (a : Int), a ≤ pf_pick p b a ∧ pf_pick p b a ≤ a + b
  | 0, a => by simp [pf_pick]
  | b + 1, a => by
    have ih := pf_pick_R p b (a + 1)
    unfold pf_pick
    split <;> omega
theorem pf_run_B {K F S n : Int} {pk : Int → Int → Int} (h : ∀ k s : Int, 0 ≤ pk k s ∧ pk k s ≤ 9) : ∀ k : Nat, 0 ≤ (pf_run K F S n pk k).2 ∧ (pf_run K F S n pk k).2 < 10 ^ k
  | 0 => by simp [pf_run]
  | k + 1 => by
    have ih := pf_run_B (K := K) (F := F) (S := S) (n := n) h k
    have := h k (pf_run K F S n pk k).1
    show 0 ≤ (pf_run K F S n pk k).2 * 10 + _ ∧ (pf_run K F S n pk k).2 * 10 + _ < 10 ^ (k + 1)
    rw [Int.pow_succ]
    omega
theorem pf_10_8 {k : Nat} (h : k ≤ 8) : (10 : Int) ^ k ≤ 100000000 := by
  have : k = 0 ∨ k = 1 ∨ k = 2 ∨ k = 3 ∨ k = 4 ∨ k = 5 ∨ k = 6 ∨ k = 7 ∨ k = 8 := by omega
  rcases this with rfl | rfl | rfl | rfl | rfl | rfl | rfl | rfl | rfl <;> decide
theorem dd_Ou_valueOf_0 : decode cc_Ou_valueOf 0 = .ok (.iload_n 1, 1) := by decide +kernel
theorem dd_Ou_valueOf_1 : decode cc_Ou_valueOf 1 = .ok (.bipush 11, 2) := by decide +kernel
theorem dd_Ou_valueOf_3 : decode cc_Ou_valueOf 3 = .ok (.imul, 1) := by decide +kernel
theorem dd_Ou_valueOf_4 : decode cc_Ou_valueOf 4 = .ok (.iload_n 2, 1) := by decide +kernel
theorem dd_Ou_valueOf_5 : decode cc_Ou_valueOf 5 = .ok (.iadd, 1) := by decide +kernel
theorem dd_Ou_valueOf_6 : decode cc_Ou_valueOf 6 = .ok (.istore_n 3, 1) := by decide +kernel
theorem dd_Ou_valueOf_7 : decode cc_Ou_valueOf 7 = .ok (.iload_n 3, 1) := by decide +kernel
theorem dd_Ou_valueOf_8 : decode cc_Ou_valueOf 8 = .ok (.aload_n 0, 1) := by decide +kernel
theorem dd_Ou_valueOf_9 : decode cc_Ou_valueOf 9 = .ok (.getfield 11, 3) := by decide +kernel
theorem dd_Ou_valueOf_12 : decode cc_Ou_valueOf 12 = .ok (.arraylength, 1) := by decide +kernel
theorem dd_Ou_valueOf_13 : decode cc_Ou_valueOf 13 = .ok (.invokestatic 93, 3) := by decide +kernel
theorem dd_Ou_valueOf_16 : decode cc_Ou_valueOf 16 = .ok (.ifCond .eq 12, 3) := by decide +kernel
theorem dd_Ou_valueOf_19 : decode cc_Ou_valueOf 19 = .ok (.aload_n 0, 1) := by decide +kernel
theorem dd_Ou_valueOf_20 : decode cc_Ou_valueOf 20 = .ok (.getfield 11, 3) := by decide +kernel
theorem dd_Ou_valueOf_23 : decode cc_Ou_valueOf 23 = .ok (.iload_n 3, 1) := by decide +kernel
theorem dd_Ou_valueOf_24 : decode cc_Ou_valueOf 24 = .ok (.laload, 1) := by decide +kernel
theorem dd_Ou_valueOf_25 : decode cc_Ou_valueOf 25 = .ok (.goto 4, 3) := by decide +kernel
theorem dd_Ou_valueOf_28 : decode cc_Ou_valueOf 28 = .ok (.lconst 0, 1) := by decide +kernel
theorem dd_Ou_valueOf_29 : decode cc_Ou_valueOf 29 = .ok (.lreturn, 1) := by decide +kernel
set_option maxRecDepth 100000 in
set_option maxHeartbeats 4000000 in
theorem ct_Ou_valueOf (l : Launch) (E : gf_E) (k s : Int) (μ : gf_M) (hk : 0 ≤ k ∧ k ≤ 8) (hs : 0 ≤ s ∧ s ≤ 10) : gf_Ml l E yy_Ou_valueOf cc_Ou_valueOf 4 (gf_rm 1 21) 81 gf_ref μ [.ref (gf_ad E 59), .int (gf_i k), .int (gf_i s)] (fun r μ' => r = μ 60 (k * 11 + s) ∧ μ' = μ) := by
  refine gf_ml (by decide +kernel) (Nat.le_of_ble_eq_true rfl) (by decide) (fun X Q hlx C hQ => ?_)
  subst hlx
  replace C : gf_C X E cc_Ou_valueOf 4 "GuardFigures$Outlook" (gf_rm 1 21) := C
  show gf_G X E Q 4 gf_φ μ 0 [(0, .ref (gf_ad E 59)), (1, .int (gf_i k)), (2, .int (gf_i s))] []
  refine gf_iload_n C dd_Ou_valueOf_0 1 rfl ?_
  refine gf_bipush C dd_Ou_valueOf_1 (by decide +kernel) ?_
  refine gf_imul C dd_Ou_valueOf_3 ?_
  refine gf_iload_n C dd_Ou_valueOf_4 2 rfl ?_
  refine gf_iadd C dd_Ou_valueOf_5 ?_
  refine gf_nm (fun x6 hx6 => ?_)
  refine gf_istore_n (lv' := [(3, .int (gf_i x6)), (0, .ref (gf_ad E 59)), (1, .int (gf_i k)), (2, .int (gf_i s))]) C dd_Ou_valueOf_6 (by decide) rfl ?_
  refine gf_iload_n C dd_Ou_valueOf_7 0 rfl ?_
  refine gf_aload_n C dd_Ou_valueOf_8 1 rfl ?_
  refine gf_getA (r := 60) C gf_cl1 fl_Ou_11 dd_Ou_valueOf_9 rfl (show gf_is 81 59 0 1 2 by decide) (by decide) (by decide) ?_
  refine gf_alen 2 C dd_Ou_valueOf_12 (show gf_is 81 60 2 1 99 by decide) (by decide) ?_
  refine gf_callNi (st := []) (As := [.int (gf_i x6), .int (gf_i 99)]) C im_Fi_isWithin C.2.2.2.2.2.2.1.2.2.2.2.2.2.2.2.2.2.1 (ct_Fi_isWithin (gf_xl X) E x6 99 μ (by omega) (by omega)) rfl ⟨rfl, rfl, rfl, rfl⟩ (Nat.le_of_ble_eq_true rfl) rfl dd_Ou_valueOf_13 (fun r13 m13 hR13 hp13 => ?_)
  have hr13 := hp13.1
  refine gf_pm hp13.2 ?_
  refine gf_if_eq 28 C dd_Ou_valueOf_16 (by decide) (by omega) (fun h16 => ?_) (fun h16 => ?_)
  · skip
    refine gf_lconst 0 C dd_Ou_valueOf_28 (by decide +kernel) ?_
    refine gf_lret C hQ dd_Ou_valueOf_29 (by omega) ?_
    first | (exact ⟨by rw [hx6], rfl⟩) | (have := hr13.1 (by omega); omega)
  · skip
    refine gf_aload_n C dd_Ou_valueOf_19 1 rfl ?_
    refine gf_getA (r := 60) C gf_cl1 fl_Ou_11 dd_Ou_valueOf_20 rfl (show gf_is 81 59 0 1 2 by decide) (by decide) (by decide) ?_
    refine gf_iload_n C dd_Ou_valueOf_23 0 rfl ?_
    refine gf_lald C dd_Ou_valueOf_24 (show gf_is 81 60 2 1 99 by decide) (by omega) (fun hv24 => ?_)
    refine gf_goto 29 C dd_Ou_valueOf_25 (by decide) ?_
    refine gf_lret C hQ dd_Ou_valueOf_29 (by omega) ?_
    first | (exact ⟨by rw [hx6], rfl⟩) | (have := hr13.1 (by omega); omega)

theorem dd_Ou_keepValue_0 : decode cc_Ou_keepValue 0 = .ok (.iload_n 1, 1) := by decide +kernel
theorem dd_Ou_keepValue_1 : decode cc_Ou_keepValue 1 = .ok (.bipush 11, 2) := by decide +kernel
theorem dd_Ou_keepValue_3 : decode cc_Ou_keepValue 3 = .ok (.imul, 1) := by decide +kernel
theorem dd_Ou_keepValue_4 : decode cc_Ou_keepValue 4 = .ok (.iload_n 2, 1) := by decide +kernel
theorem dd_Ou_keepValue_5 : decode cc_Ou_keepValue 5 = .ok (.iadd, 1) := by decide +kernel
theorem dd_Ou_keepValue_6 : decode cc_Ou_keepValue 6 = .ok (.istore 5, 2) := by decide +kernel
theorem dd_Ou_keepValue_8 : decode cc_Ou_keepValue 8 = .ok (.iload 5, 2) := by decide +kernel
theorem dd_Ou_keepValue_10 : decode cc_Ou_keepValue 10 = .ok (.aload_n 0, 1) := by decide +kernel
theorem dd_Ou_keepValue_11 : decode cc_Ou_keepValue 11 = .ok (.getfield 11, 3) := by decide +kernel
theorem dd_Ou_keepValue_14 : decode cc_Ou_keepValue 14 = .ok (.arraylength, 1) := by decide +kernel
theorem dd_Ou_keepValue_15 : decode cc_Ou_keepValue 15 = .ok (.invokestatic 93, 3) := by decide +kernel
theorem dd_Ou_keepValue_18 : decode cc_Ou_keepValue 18 = .ok (.ifCond .eq 11, 3) := by decide +kernel
theorem dd_Ou_keepValue_21 : decode cc_Ou_keepValue 21 = .ok (.aload_n 0, 1) := by decide +kernel
theorem dd_Ou_keepValue_22 : decode cc_Ou_keepValue 22 = .ok (.getfield 11, 3) := by decide +kernel
theorem dd_Ou_keepValue_25 : decode cc_Ou_keepValue 25 = .ok (.iload 5, 2) := by decide +kernel
theorem dd_Ou_keepValue_27 : decode cc_Ou_keepValue 27 = .ok (.lload_n 3, 1) := by decide +kernel
theorem dd_Ou_keepValue_28 : decode cc_Ou_keepValue 28 = .ok (.lastore, 1) := by decide +kernel
theorem dd_Ou_keepValue_29 : decode cc_Ou_keepValue 29 = .ok (.return_, 1) := by decide +kernel
set_option maxRecDepth 100000 in
set_option maxHeartbeats 4000000 in
theorem ct_Ou_keepValue (l : Launch) (E : gf_E) (k s v : Int) (μ : gf_M) (hk : 0 ≤ k ∧ k ≤ 8) (hs : 0 ≤ s ∧ s ≤ 10) (hv : gf_RL v) : gf_Mv l E yy_Ou_keepValue cc_Ou_keepValue 6 (gf_rm 1 21) 81 gf_ref 0 0 81 gf_ref μ [.ref (gf_ad E 59), .int (gf_i k), .int (gf_i s), .long (gf_l v)] (fun μ' => μ' = gf_up μ 60 (k * 11 + s) v) := by
  refine gf_mv (by decide +kernel) (Nat.le_of_ble_eq_true rfl) (by decide) (fun X Q hlx C hname hQ => ?_)
  subst hlx
  replace C : gf_C X E cc_Ou_keepValue 6 "GuardFigures$Outlook" (gf_rm 1 21) := C
  show gf_G X E Q 6 gf_φ μ 0 [(0, .ref (gf_ad E 59)), (1, .int (gf_i k)), (2, .int (gf_i s)), (3, .long (gf_l v))] []
  refine gf_iload_n C dd_Ou_keepValue_0 1 rfl ?_
  refine gf_bipush C dd_Ou_keepValue_1 (by decide +kernel) ?_
  refine gf_imul C dd_Ou_keepValue_3 ?_
  refine gf_iload_n C dd_Ou_keepValue_4 2 rfl ?_
  refine gf_iadd C dd_Ou_keepValue_5 ?_
  refine gf_nm (fun x6 hx6 => ?_)
  refine gf_istore (lv' := [(5, .int (gf_i x6)), (0, .ref (gf_ad E 59)), (1, .int (gf_i k)), (2, .int (gf_i s)), (3, .long (gf_l v))]) C dd_Ou_keepValue_6 (by decide) rfl ?_
  refine gf_iload C dd_Ou_keepValue_8 0 rfl ?_
  refine gf_aload_n C dd_Ou_keepValue_10 1 rfl ?_
  refine gf_getA (r := 60) C gf_cl1 fl_Ou_11 dd_Ou_keepValue_11 rfl (show gf_is 81 59 0 1 2 by decide) (by decide) (by decide) ?_
  refine gf_alen 2 C dd_Ou_keepValue_14 (show gf_is 81 60 2 1 99 by decide) (by decide) ?_
  refine gf_callNi (st := []) (As := [.int (gf_i x6), .int (gf_i 99)]) C im_Fi_isWithin C.2.2.2.2.2.2.1.2.2.2.2.2.2.2.2.2.2.1 (ct_Fi_isWithin (gf_xl X) E x6 99 μ (by omega) (by omega)) rfl ⟨rfl, rfl, rfl, rfl⟩ (Nat.le_of_ble_eq_true rfl) rfl dd_Ou_keepValue_15 (fun r15 m15 hR15 hp15 => ?_)
  have hr15 := hp15.1
  refine gf_pm hp15.2 ?_
  refine gf_if_eq 29 C dd_Ou_keepValue_18 (by decide) (by omega) (fun h18 => ?_) (fun h18 => ?_)
  · skip
    refine gf_vret C hQ dd_Ou_keepValue_29 ?_
    first | (rw [hm28, hx6]; done) | (have := hr15.1 (by omega); omega)
  · skip
    refine gf_aload_n C dd_Ou_keepValue_21 1 rfl ?_
    refine gf_getA (r := 60) C gf_cl1 fl_Ou_11 dd_Ou_keepValue_22 rfl (show gf_is 81 59 0 1 2 by decide) (by decide) (by decide) ?_
    refine gf_iload C dd_Ou_keepValue_25 0 rfl ?_
    refine gf_lload_n C dd_Ou_keepValue_27 4 rfl ?_
    refine gf_last rfl C dd_Ou_keepValue_28 (show gf_is 81 60 2 1 99 by decide) (by omega) (by omega) ?_
    refine gf_nmM (fun m28 hm28 => ?_)
    refine gf_vret C hQ dd_Ou_keepValue_29 ?_
    first | (rw [hm28, hx6]; done) | (have := hr15.1 (by omega); omega)

theorem dd_Ou_endWithCheck_0 : decode cc_Ou_endWithCheck 0 = .ok (.iconst 0, 1) := by decide +kernel
theorem dd_Ou_endWithCheck_1 : decode cc_Ou_endWithCheck 1 = .ok (.istore 6, 2) := by decide +kernel
theorem dd_Ou_endWithCheck_3 : decode cc_Ou_endWithCheck 3 = .ok (.iload 6, 2) := by decide +kernel
theorem dd_Ou_endWithCheck_5 : decode cc_Ou_endWithCheck 5 = .ok (.bipush 11, 2) := by decide +kernel
theorem dd_Ou_endWithCheck_7 : decode cc_Ou_endWithCheck 7 = .ok (.if_icmp .ge 36, 3) := by decide +kernel
theorem dd_Ou_endWithCheck_10 : decode cc_Ou_endWithCheck 10 = .ok (.aload_n 0, 1) := by decide +kernel
theorem dd_Ou_endWithCheck_11 : decode cc_Ou_endWithCheck 11 = .ok (.iload_n 2, 1) := by decide +kernel
theorem dd_Ou_endWithCheck_12 : decode cc_Ou_endWithCheck 12 = .ok (.iload 6, 2) := by decide +kernel
theorem dd_Ou_endWithCheck_14 : decode cc_Ou_endWithCheck 14 = .ok (.aload_n 1, 1) := by decide +kernel
theorem dd_Ou_endWithCheck_15 : decode cc_Ou_endWithCheck 15 = .ok (.iload 6, 2) := by decide +kernel
theorem dd_Ou_endWithCheck_17 : decode cc_Ou_endWithCheck 17 = .ok (.iload_n 2, 1) := by decide +kernel
theorem dd_Ou_endWithCheck_18 : decode cc_Ou_endWithCheck 18 = .ok (.invokevirtual 90, 3) := by decide +kernel
theorem dd_Ou_endWithCheck_21 : decode cc_Ou_endWithCheck 21 = .ok (.iload_n 3, 1) := by decide +kernel
theorem dd_Ou_endWithCheck_22 : decode cc_Ou_endWithCheck 22 = .ok (.if_icmp .ne 9, 3) := by decide +kernel
theorem dd_Ou_endWithCheck_25 : decode cc_Ou_endWithCheck 25 = .ok (.iload 4, 2) := by decide +kernel
theorem dd_Ou_endWithCheck_27 : decode cc_Ou_endWithCheck 27 = .ok (.i2l, 1) := by decide +kernel
theorem dd_Ou_endWithCheck_28 : decode cc_Ou_endWithCheck 28 = .ok (.goto 6, 3) := by decide +kernel
theorem dd_Ou_endWithCheck_31 : decode cc_Ou_endWithCheck 31 = .ok (.iload 5, 2) := by decide +kernel
theorem dd_Ou_endWithCheck_33 : decode cc_Ou_endWithCheck 33 = .ok (.i2l, 1) := by decide +kernel
theorem dd_Ou_endWithCheck_34 : decode cc_Ou_endWithCheck 34 = .ok (.invokevirtual 37, 3) := by decide +kernel
theorem dd_Ou_endWithCheck_37 : decode cc_Ou_endWithCheck 37 = .ok (.iinc 6 1, 3) := by decide +kernel
theorem dd_Ou_endWithCheck_40 : decode cc_Ou_endWithCheck 40 = .ok (.goto (-37), 3) := by decide +kernel
theorem dd_Ou_endWithCheck_43 : decode cc_Ou_endWithCheck 43 = .ok (.return_, 1) := by decide +kernel
set_option maxRecDepth 100000 in
set_option maxHeartbeats 4000000 in
theorem ct_Ou_endWithCheck (l : Launch) (E : gf_E) (g : Int) (μ : gf_M) (hg : gf_oGd g) (hg58 : g ≤ 58) (hG : gf_okG μ g) (n c a b : Int) (hn : 0 ≤ n ∧ n ≤ 8) (hc : gf_R c) (ha : gf_R a) (hb : gf_R b) : gf_Mv l E yy_Ou_endWithCheck cc_Ou_endWithCheck 7 (gf_rm 2 46) 81 gf_ref 0 0 81 gf_ref μ [.ref (gf_ad E 59), .ref (gf_ad E g), .int (gf_i n), .int (gf_i c), .int (gf_i a), .int (gf_i b)] (fun μ' => (∀ s : Int, 0 ≤ s → s ≤ 10 → μ' 60 (n * 11 + s) = pf_eC (μ g 0) n c a b s) ∧ ∀ x y : Int, x ≠ 60 → μ' x y = μ x y) := by
  refine gf_mv (by decide +kernel) (Nat.le_of_ble_eq_true rfl) (by decide) (fun X Q hlx C hname hQ => ?_)
  subst hlx
  replace C : gf_C X E cc_Ou_endWithCheck 7 "GuardFigures$Outlook" (gf_rm 2 46) := C
  show gf_G X E Q 7 gf_φ μ 0 [(0, .ref (gf_ad E 59)), (1, .ref (gf_ad E g)), (2, .int (gf_i n)), (3, .int (gf_i c)), (4, .int (gf_i a)), (5, .int (gf_i b))] []
  refine gf_iconst C dd_Ou_endWithCheck_0 ?_
  refine gf_istore (lv' := [(6, .int (gf_i 0)), (0, .ref (gf_ad E 59)), (1, .ref (gf_ad E g)), (2, .int (gf_i n)), (3, .int (gf_i c)), (4, .int (gf_i a)), (5, .int (gf_i b))]) C dd_Ou_endWithCheck_1 (by decide) rfl ?_
  have L3_1 : ∀ (N : Nat) (s : Int) (m : gf_M) , (0 ≤ s ∧ s ≤ 11 ∧ (∀ z : Int, 0 ≤ z → z < s → m 60 (n * 11 + z) = pf_eC (μ g 0) n c a b z) ∧ ∀ x y : Int, x ≠ 60 → m x y = μ x y) → (11 - s).toNat < N → gf_G X E Q 7 gf_φ m 3 [(6, .int (gf_i s)), (0, .ref (gf_ad E 59)), (1, .ref (gf_ad E g)), (2, .int (gf_i n)), (3, .int (gf_i c)), (4, .int (gf_i a)), (5, .int (gf_i b))] [] := by
    intro N
    induction N with
    | zero => intro s m hinv hN; exact absurd hN (Nat.not_lt_zero _)
    | succ N ih3_1 =>
      intro s m hinv hN
      have hinv0 := hinv
      obtain ⟨hs0, hs1, hs2, hs3⟩ := hinv
      have hG2 : gf_okG m g := by unfold gf_okG; rw [hs3 g 0 (by omega), hs3 g 1 (by omega), hs3 g 2 (by omega)]; exact hG
      refine gf_iload C dd_Ou_endWithCheck_3 0 rfl ?_
      refine gf_bipush C dd_Ou_endWithCheck_5 (by decide +kernel) ?_
      refine gf_icmp_ge 43 C dd_Ou_endWithCheck_7 (by decide) (by omega) (by omega) (fun h7 => ?_) (fun h7 => ?_)
      · skip
        refine gf_vret C hQ dd_Ou_endWithCheck_43 ?_
        exact ⟨fun s' h0 h1 => hs2 s' h0 (by omega), hs3⟩
      · skip
        refine gf_aload_n C dd_Ou_endWithCheck_10 1 rfl ?_
        refine gf_iload_n C dd_Ou_endWithCheck_11 3 rfl ?_
        refine gf_iload C dd_Ou_endWithCheck_12 0 rfl ?_
        refine gf_aload_n C dd_Ou_endWithCheck_14 2 rfl ?_
        refine gf_iload C dd_Ou_endWithCheck_15 0 rfl ?_
        refine gf_iload_n C dd_Ou_endWithCheck_17 3 rfl ?_
        refine gf_callVi (st := [.int (gf_i s), .int (gf_i n), .ref (gf_ad E 59)]) (As := [.int (gf_i s), .int (gf_i n)]) C wk_Ou_90 gf_cl0 hg (ct_Gd_finish (gf_xl X) E g s n m hg (hG2) (by omega) (by omega)) rfl ⟨rfl, rfl, rfl, rfl⟩ (Nat.le_of_ble_eq_true rfl) rfl dd_Ou_endWithCheck_18 (fun r18 m18 hR18 hp18 => ?_)
        have hr18 := hp18.1
        refine gf_pm hp18.2 ?_
        refine gf_iload_n C dd_Ou_endWithCheck_21 4 rfl ?_
        refine gf_icmp_ne 31 C dd_Ou_endWithCheck_22 (by decide) (by omega) (by omega) (fun h22 => ?_) (fun h22 => ?_)
        · skip
          refine gf_iload C dd_Ou_endWithCheck_31 6 rfl ?_
          refine gf_gi2l C dd_Ou_endWithCheck_33 (by omega) ?_
          refine gf_callVv (st := []) (As := [.int (gf_i n), .int (gf_i s), .long (gf_l b)]) C wk_Ou_37 gf_cl1 (show gf_is 81 59 0 1 2 by decide) (ct_Ou_keepValue (gf_xl X) E n s b m (by omega) (by omega) (by omega)) rfl ⟨rfl, rfl, rfl, rfl⟩ (Nat.le_of_ble_eq_true rfl) rfl dd_Ou_endWithCheck_34 (fun m34 hp34 => ?_)
          obtain ⟨x37, hx37⟩ : ∃ y : Int, y = s + 1 := ⟨_, rfl⟩
          refine gf_iinc (q := 0) (v := x37) (lv' := [(6, .int (gf_i x37)), (0, .ref (gf_ad E 59)), (1, .ref (gf_ad E g)), (2, .int (gf_i n)), (3, .int (gf_i c)), (4, .int (gf_i a)), (5, .int (gf_i b))]) C dd_Ou_endWithCheck_37 rfl hx37 (by decide) rfl ?_
          refine gf_goto 3 C dd_Ou_endWithCheck_40 (by decide) ?_
          refine gf_lsub [0, 1, 2, 3, 4, 5, 6] rfl ?_
          exact ih3_1 x37 m34 (by
                  refine ⟨by omega, by omega, fun z h0 h1 => ?_, fun x y h => by rw [hp34, gf_up_k h]; exact hs3 x y h⟩
                  have hf := hr18.1
                  rw [hs3 g 0 (by omega)] at hf
                  rw [hp34]
                  by_cases e : z = s
                  · subst e
                    rw [gf_up_s]
                    unfold pf_eC
                    first
                    | (rw [if_pos (by omega)]; done)
                    | (rw [if_neg (by omega)]; done)
                  · rw [gf_up_j (by omega)]; exact hs2 z h0 (by omega)) (by omega)
        · skip
          refine gf_iload C dd_Ou_endWithCheck_25 5 rfl ?_
          refine gf_gi2l C dd_Ou_endWithCheck_27 (by omega) ?_
          refine gf_goto 34 C dd_Ou_endWithCheck_28 (by decide) ?_
          refine gf_callVv (st := []) (As := [.int (gf_i n), .int (gf_i s), .long (gf_l a)]) C wk_Ou_37 gf_cl1 (show gf_is 81 59 0 1 2 by decide) (ct_Ou_keepValue (gf_xl X) E n s a m (by omega) (by omega) (by omega)) rfl ⟨rfl, rfl, rfl, rfl⟩ (Nat.le_of_ble_eq_true rfl) rfl dd_Ou_endWithCheck_34 (fun m34 hp34 => ?_)
          obtain ⟨x37, hx37⟩ : ∃ y : Int, y = s + 1 := ⟨_, rfl⟩
          refine gf_iinc (q := 0) (v := x37) (lv' := [(6, .int (gf_i x37)), (0, .ref (gf_ad E 59)), (1, .ref (gf_ad E g)), (2, .int (gf_i n)), (3, .int (gf_i c)), (4, .int (gf_i a)), (5, .int (gf_i b))]) C dd_Ou_endWithCheck_37 rfl hx37 (by decide) rfl ?_
          refine gf_goto 3 C dd_Ou_endWithCheck_40 (by decide) ?_
          refine gf_lsub [0, 1, 2, 3, 4, 5, 6] rfl ?_
          exact ih3_1 x37 m34 (by
                  refine ⟨by omega, by omega, fun z h0 h1 => ?_, fun x y h => by rw [hp34, gf_up_k h]; exact hs3 x y h⟩
                  have hf := hr18.1
                  rw [hs3 g 0 (by omega)] at hf
                  rw [hp34]
                  by_cases e : z = s
                  · subst e
                    rw [gf_up_s]
                    unfold pf_eC
                    first
                    | (rw [if_pos (by omega)]; done)
                    | (rw [if_neg (by omega)]; done)
                  · rw [gf_up_j (by omega)]; exact hs2 z h0 (by omega)) (by omega)
  refine gf_lsub [0, 1, 2, 3, 4, 5, 6] rfl ?_
  exact L3_1 _ 0 μ (⟨by omega, by omega, fun z h0 h1 => by omega, fun x y _ => rfl⟩) (Nat.lt_succ_self _)

theorem dd_Ou_endWithReckoned_0 : decode cc_Ou_endWithReckoned 0 = .ok (.iconst 0, 1) := by decide +kernel
theorem dd_Ou_endWithReckoned_1 : decode cc_Ou_endWithReckoned 1 = .ok (.istore_n 3, 1) := by decide +kernel
theorem dd_Ou_endWithReckoned_2 : decode cc_Ou_endWithReckoned 2 = .ok (.iload_n 3, 1) := by decide +kernel
theorem dd_Ou_endWithReckoned_3 : decode cc_Ou_endWithReckoned 3 = .ok (.bipush 11, 2) := by decide +kernel
theorem dd_Ou_endWithReckoned_5 : decode cc_Ou_endWithReckoned 5 = .ok (.if_icmp .ge 22, 3) := by decide +kernel
theorem dd_Ou_endWithReckoned_8 : decode cc_Ou_endWithReckoned 8 = .ok (.aload_n 0, 1) := by decide +kernel
theorem dd_Ou_endWithReckoned_9 : decode cc_Ou_endWithReckoned 9 = .ok (.iload_n 2, 1) := by decide +kernel
theorem dd_Ou_endWithReckoned_10 : decode cc_Ou_endWithReckoned 10 = .ok (.iload_n 3, 1) := by decide +kernel
theorem dd_Ou_endWithReckoned_11 : decode cc_Ou_endWithReckoned 11 = .ok (.aload_n 1, 1) := by decide +kernel
theorem dd_Ou_endWithReckoned_12 : decode cc_Ou_endWithReckoned 12 = .ok (.iload_n 3, 1) := by decide +kernel
theorem dd_Ou_endWithReckoned_13 : decode cc_Ou_endWithReckoned 13 = .ok (.iload_n 2, 1) := by decide +kernel
theorem dd_Ou_endWithReckoned_14 : decode cc_Ou_endWithReckoned 14 = .ok (.invokevirtual 90, 3) := by decide +kernel
theorem dd_Ou_endWithReckoned_17 : decode cc_Ou_endWithReckoned 17 = .ok (.i2l, 1) := by decide +kernel
theorem dd_Ou_endWithReckoned_18 : decode cc_Ou_endWithReckoned 18 = .ok (.invokevirtual 37, 3) := by decide +kernel
theorem dd_Ou_endWithReckoned_21 : decode cc_Ou_endWithReckoned 21 = .ok (.iinc 3 1, 3) := by decide +kernel
theorem dd_Ou_endWithReckoned_24 : decode cc_Ou_endWithReckoned 24 = .ok (.goto (-22), 3) := by decide +kernel
theorem dd_Ou_endWithReckoned_27 : decode cc_Ou_endWithReckoned 27 = .ok (.return_, 1) := by decide +kernel
set_option maxRecDepth 100000 in
set_option maxHeartbeats 4000000 in
theorem ct_Ou_endWithReckoned (l : Launch) (E : gf_E) (g : Int) (μ : gf_M) (hg : gf_oGd g) (hg58 : g ≤ 58) (hG : gf_okG μ g) (n : Int) (hn : 0 ≤ n ∧ n ≤ 8) : gf_Mv l E yy_Ou_endWithReckoned cc_Ou_endWithReckoned 4 (gf_rm 2 46) 81 gf_ref 0 0 81 gf_ref μ [.ref (gf_ad E 59), .ref (gf_ad E g), .int (gf_i n)] (fun μ' => (∀ s : Int, 0 ≤ s → s ≤ 10 → μ' 60 (n * 11 + s) = pf_fin (μ g 0) s n) ∧ ∀ x y : Int, x ≠ 60 → μ' x y = μ x y) := by
  refine gf_mv (by decide +kernel) (Nat.le_of_ble_eq_true rfl) (by decide) (fun X Q hlx C hname hQ => ?_)
  subst hlx
  replace C : gf_C X E cc_Ou_endWithReckoned 4 "GuardFigures$Outlook" (gf_rm 2 46) := C
  show gf_G X E Q 4 gf_φ μ 0 [(0, .ref (gf_ad E 59)), (1, .ref (gf_ad E g)), (2, .int (gf_i n))] []
  refine gf_iconst C dd_Ou_endWithReckoned_0 ?_
  refine gf_istore_n (lv' := [(3, .int (gf_i 0)), (0, .ref (gf_ad E 59)), (1, .ref (gf_ad E g)), (2, .int (gf_i n))]) C dd_Ou_endWithReckoned_1 (by decide) rfl ?_
  have L2_1 : ∀ (N : Nat) (s : Int) (m : gf_M) , (0 ≤ s ∧ s ≤ 11 ∧ (∀ z : Int, 0 ≤ z → z < s → m 60 (n * 11 + z) = pf_fin (μ g 0) z n) ∧ ∀ x y : Int, x ≠ 60 → m x y = μ x y) → (11 - s).toNat < N → gf_G X E Q 4 gf_φ m 2 [(3, .int (gf_i s)), (0, .ref (gf_ad E 59)), (1, .ref (gf_ad E g)), (2, .int (gf_i n))] [] := by
    intro N
    induction N with
    | zero => intro s m hinv hN; exact absurd hN (Nat.not_lt_zero _)
    | succ N ih2_1 =>
      intro s m hinv hN
      have hinv0 := hinv
      obtain ⟨hs0, hs1, hs2, hs3⟩ := hinv
      have hG2 : gf_okG m g := by unfold gf_okG; rw [hs3 g 0 (by omega), hs3 g 1 (by omega), hs3 g 2 (by omega)]; exact hG
      refine gf_iload_n C dd_Ou_endWithReckoned_2 0 rfl ?_
      refine gf_bipush C dd_Ou_endWithReckoned_3 (by decide +kernel) ?_
      refine gf_icmp_ge 27 C dd_Ou_endWithReckoned_5 (by decide) (by omega) (by omega) (fun h5 => ?_) (fun h5 => ?_)
      · skip
        refine gf_vret C hQ dd_Ou_endWithReckoned_27 ?_
        exact ⟨fun s' h0 h1 => hs2 s' h0 (by omega), hs3⟩
      · skip
        refine gf_aload_n C dd_Ou_endWithReckoned_8 1 rfl ?_
        refine gf_iload_n C dd_Ou_endWithReckoned_9 3 rfl ?_
        refine gf_iload_n C dd_Ou_endWithReckoned_10 0 rfl ?_
        refine gf_aload_n C dd_Ou_endWithReckoned_11 2 rfl ?_
        refine gf_iload_n C dd_Ou_endWithReckoned_12 0 rfl ?_
        refine gf_iload_n C dd_Ou_endWithReckoned_13 3 rfl ?_
        refine gf_callVi (st := [.int (gf_i s), .int (gf_i n), .ref (gf_ad E 59)]) (As := [.int (gf_i s), .int (gf_i n)]) C wk_Ou_90 gf_cl0 hg (ct_Gd_finish (gf_xl X) E g s n m hg (hG2) (by omega) (by omega)) rfl ⟨rfl, rfl, rfl, rfl⟩ (Nat.le_of_ble_eq_true rfl) rfl dd_Ou_endWithReckoned_14 (fun r14 m14 hR14 hp14 => ?_)
        have hr14 := hp14.1
        refine gf_pm hp14.2 ?_
        refine gf_gi2l C dd_Ou_endWithReckoned_17 (by omega) ?_
        refine gf_callVv (st := []) (As := [.int (gf_i n), .int (gf_i s), .long (gf_l r14)]) C wk_Ou_37 gf_cl1 (show gf_is 81 59 0 1 2 by decide) (ct_Ou_keepValue (gf_xl X) E n s r14 m (by omega) (by omega) (by omega)) rfl ⟨rfl, rfl, rfl, rfl⟩ (Nat.le_of_ble_eq_true rfl) rfl dd_Ou_endWithReckoned_18 (fun m18 hp18 => ?_)
        obtain ⟨x21, hx21⟩ : ∃ y : Int, y = s + 1 := ⟨_, rfl⟩
        refine gf_iinc (q := 0) (v := x21) (lv' := [(3, .int (gf_i x21)), (0, .ref (gf_ad E 59)), (1, .ref (gf_ad E g)), (2, .int (gf_i n))]) C dd_Ou_endWithReckoned_21 rfl hx21 (by decide) rfl ?_
        refine gf_goto 2 C dd_Ou_endWithReckoned_24 (by decide) ?_
        refine gf_lsub [0, 1, 2, 3] rfl ?_
        exact ih2_1 x21 m18 (by
                refine ⟨by omega, by omega, fun z h0 h1 => ?_, fun x y h => by rw [hp18, gf_up_k h]; exact hs3 x y h⟩
                have hf := hr14.1
                rw [hs3 g 0 (by omega)] at hf
                rw [hp18]
                by_cases e : z = s
                · subst e
                  rw [gf_up_s, hf]
                · rw [gf_up_j (by omega)]; exact hs2 z h0 (by omega)) (by omega)
  refine gf_lsub [0, 1, 2, 3] rfl ?_
  exact L2_1 _ 0 μ (⟨by omega, by omega, fun z h0 h1 => by omega, fun x y _ => rfl⟩) (Nat.lt_succ_self _)

theorem dd_Ou_othersWith_0 : decode cc_Ou_othersWith 0 = .ok (.iload 5, 2) := by decide +kernel
theorem dd_Ou_othersWith_2 : decode cc_Ou_othersWith 2 = .ok (.aload_n 2, 1) := by decide +kernel
theorem dd_Ou_othersWith_3 : decode cc_Ou_othersWith 3 = .ok (.getfield 54, 3) := by decide +kernel
theorem dd_Ou_othersWith_6 : decode cc_Ou_othersWith 6 = .ok (.iload_n 3, 1) := by decide +kernel
theorem dd_Ou_othersWith_7 : decode cc_Ou_othersWith 7 = .ok (.iaload, 1) := by decide +kernel
theorem dd_Ou_othersWith_8 : decode cc_Ou_othersWith 8 = .ok (.if_icmp .ne 7, 3) := by decide +kernel
theorem dd_Ou_othersWith_11 : decode cc_Ou_othersWith 11 = .ok (.iconst 0, 1) := by decide +kernel
theorem dd_Ou_othersWith_12 : decode cc_Ou_othersWith 12 = .ok (.goto 4, 3) := by decide +kernel
theorem dd_Ou_othersWith_15 : decode cc_Ou_othersWith 15 = .ok (.iconst 1, 1) := by decide +kernel
theorem dd_Ou_othersWith_16 : decode cc_Ou_othersWith 16 = .ok (.istore 6, 2) := by decide +kernel
theorem dd_Ou_othersWith_18 : decode cc_Ou_othersWith 18 = .ok (.iload 6, 2) := by decide +kernel
theorem dd_Ou_othersWith_20 : decode cc_Ou_othersWith 20 = .ok (.i2l, 1) := by decide +kernel
theorem dd_Ou_othersWith_21 : decode cc_Ou_othersWith 21 = .ok (.aload_n 0, 1) := by decide +kernel
theorem dd_Ou_othersWith_22 : decode cc_Ou_othersWith 22 = .ok (.iload_n 3, 1) := by decide +kernel
theorem dd_Ou_othersWith_23 : decode cc_Ou_othersWith 23 = .ok (.iconst 1, 1) := by decide +kernel
theorem dd_Ou_othersWith_24 : decode cc_Ou_othersWith 24 = .ok (.iadd, 1) := by decide +kernel
theorem dd_Ou_othersWith_25 : decode cc_Ou_othersWith 25 = .ok (.aload_n 1, 1) := by decide +kernel
theorem dd_Ou_othersWith_26 : decode cc_Ou_othersWith 26 = .ok (.iload 4, 2) := by decide +kernel
theorem dd_Ou_othersWith_28 : decode cc_Ou_othersWith 28 = .ok (.iload_n 3, 1) := by decide +kernel
theorem dd_Ou_othersWith_29 : decode cc_Ou_othersWith 29 = .ok (.iload 5, 2) := by decide +kernel
theorem dd_Ou_othersWith_31 : decode cc_Ou_othersWith 31 = .ok (.aload_n 2, 1) := by decide +kernel
theorem dd_Ou_othersWith_32 : decode cc_Ou_othersWith 32 = .ok (.getfield 15, 3) := by decide +kernel
theorem dd_Ou_othersWith_35 : decode cc_Ou_othersWith 35 = .ok (.invokevirtual 48, 3) := by decide +kernel
theorem dd_Ou_othersWith_38 : decode cc_Ou_othersWith 38 = .ok (.invokevirtual 44, 3) := by decide +kernel
theorem dd_Ou_othersWith_41 : decode cc_Ou_othersWith 41 = .ok (.ladd, 1) := by decide +kernel
theorem dd_Ou_othersWith_42 : decode cc_Ou_othersWith 42 = .ok (.lreturn, 1) := by decide +kernel
set_option maxRecDepth 100000 in
set_option maxHeartbeats 4000000 in
theorem ct_Ou_othersWith (l : Launch) (E : gf_E) (g : Int) (μ : gf_M) (hg : gf_oGd g) (hg58 : g ≤ 58) (hG : gf_okG μ g) (k s f : Int) (hk : 0 ≤ k ∧ k < μ 41 1 ∧ μ 41 1 ≤ 8) (hs : 0 ≤ s ∧ s ≤ 10) (hf : 0 ≤ f ∧ f ≤ 9) (hv : ∀ z : Int, 0 ≤ z → z ≤ 10 → 0 ≤ μ 60 ((k + 1) * 11 + z) ∧ μ 60 ((k + 1) * 11 + z) ≤ 100) : gf_Ml l E yy_Ou_othersWith cc_Ou_othersWith 7 (gf_rm 2 45) 81 gf_ref μ [.ref (gf_ad E 59), .ref (gf_ad E g), .ref (gf_ad E 41), .int (gf_i k), .int (gf_i s), .int (gf_i f)] (fun r μ' => (r = pf_oth (μ g 0) (μ g 1) (μ g 2) (μ 41 1) (μ 42) k s f (fun z => μ 60 ((k + 1) * 11 + z)) ∧ 0 ≤ r ∧ r ≤ 101) ∧ μ' = μ) := by
  refine gf_ml (by decide +kernel) (Nat.le_of_ble_eq_true rfl) (by decide) (fun X Q hlx C hQ => ?_)
  subst hlx
  replace C : gf_C X E cc_Ou_othersWith 7 "GuardFigures$Outlook" (gf_rm 2 45) := C
  show gf_G X E Q 7 gf_φ μ 0 [(0, .ref (gf_ad E 59)), (1, .ref (gf_ad E g)), (2, .ref (gf_ad E 41)), (3, .int (gf_i k)), (4, .int (gf_i s)), (5, .int (gf_i f))] []
  refine gf_iload C dd_Ou_othersWith_0 5 rfl ?_
  refine gf_aload_n C dd_Ou_othersWith_2 2 rfl ?_
  refine gf_getA (r := 42) C gf_cl5 fl_Ou_54 dd_Ou_othersWith_3 rfl (show gf_is 81 41 0 5 5 by decide) (by decide) (by decide) ?_
  refine gf_iload_n C dd_Ou_othersWith_6 3 rfl ?_
  refine gf_iald C dd_Ou_othersWith_7 (show gf_is 81 42 1 0 8 by decide) (by omega) (fun hv7 => ?_)
  refine gf_icmp_ne 15 C dd_Ou_othersWith_8 (by decide) (by omega) (by omega) (fun h8 => ?_) (fun h8 => ?_)
  · skip
    refine gf_iconst C dd_Ou_othersWith_15 ?_
    refine gf_istore (lv' := [(6, .int (gf_i 1)), (0, .ref (gf_ad E 59)), (1, .ref (gf_ad E g)), (2, .ref (gf_ad E 41)), (3, .int (gf_i k)), (4, .int (gf_i s)), (5, .int (gf_i f))]) C dd_Ou_othersWith_16 (by decide) rfl ?_
    refine gf_iload C dd_Ou_othersWith_18 0 rfl ?_
    refine gf_gi2l C dd_Ou_othersWith_20 (by omega) ?_
    refine gf_aload_n C dd_Ou_othersWith_21 1 rfl ?_
    refine gf_iload_n C dd_Ou_othersWith_22 4 rfl ?_
    refine gf_iconst C dd_Ou_othersWith_23 ?_
    refine gf_iadd C dd_Ou_othersWith_24 ?_
    refine gf_aload_n C dd_Ou_othersWith_25 2 rfl ?_
    refine gf_iload C dd_Ou_othersWith_26 5 rfl ?_
    refine gf_iload_n C dd_Ou_othersWith_28 4 rfl ?_
    refine gf_iload C dd_Ou_othersWith_29 6 rfl ?_
    refine gf_aload_n C dd_Ou_othersWith_31 3 rfl ?_
    refine gf_getI (z := 1) C gf_cl5 fl_Ou_15 dd_Ou_othersWith_32 rfl rfl (show gf_is 81 41 0 5 5 by decide) (fun hv32 => ?_)
    refine gf_callVi (st := [.int (gf_i (k + 1)), .ref (gf_ad E 59), .long (gf_l 1)]) (As := [.int (gf_i s), .int (gf_i k), .int (gf_i f), .int (gf_i (μ 41 1))]) C wk_Ou_48 gf_cl0 hg (ct_Gd_follow (gf_xl X) E g s k f (μ 41 1) μ hg (hG) (by omega) (by omega) (by omega)) rfl ⟨rfl, rfl, rfl, rfl⟩ (Nat.le_of_ble_eq_true rfl) rfl dd_Ou_othersWith_35 (fun r35 m35 hR35 hp35 => ?_)
    have hr35 := hp35.1
    refine gf_pm hp35.2 ?_
    refine gf_callVl (st := [.long (gf_l 1)]) (As := [.int (gf_i (k + 1)), .int (gf_i r35)]) C wk_Ou_44 gf_cl1 (show gf_is 81 59 0 1 2 by decide) (ct_Ou_valueOf (gf_xl X) E (k + 1) r35 μ (by omega) (by omega)) rfl ⟨rfl, rfl, rfl, rfl⟩ (Nat.le_of_ble_eq_true rfl) rfl dd_Ou_othersWith_38 (fun r38 m38 hR38 hp38 => ?_)
    have hr38 := hp38.1
    refine gf_pm hp38.2 ?_
    have hvz := hv r35 (by omega) (by omega)
    rw [← hr38] at hvz
    refine gf_ladd C dd_Ou_othersWith_41 ?_
    refine gf_lret C hQ dd_Ou_othersWith_42 (by omega) ?_
    refine ⟨⟨?_, by omega, by omega⟩, rfl⟩
    unfold pf_oth
    rw [hr38, hr35.1]
    first | (rw [if_pos (by omega)]; done) | (rw [if_neg (by omega)]; done)
  · skip
    refine gf_iconst C dd_Ou_othersWith_11 ?_
    refine gf_goto 16 C dd_Ou_othersWith_12 (by decide) ?_
    refine gf_istore (lv' := [(6, .int (gf_i 0)), (0, .ref (gf_ad E 59)), (1, .ref (gf_ad E g)), (2, .ref (gf_ad E 41)), (3, .int (gf_i k)), (4, .int (gf_i s)), (5, .int (gf_i f))]) C dd_Ou_othersWith_16 (by decide) rfl ?_
    refine gf_iload C dd_Ou_othersWith_18 0 rfl ?_
    refine gf_gi2l C dd_Ou_othersWith_20 (by omega) ?_
    refine gf_aload_n C dd_Ou_othersWith_21 1 rfl ?_
    refine gf_iload_n C dd_Ou_othersWith_22 4 rfl ?_
    refine gf_iconst C dd_Ou_othersWith_23 ?_
    refine gf_iadd C dd_Ou_othersWith_24 ?_
    refine gf_aload_n C dd_Ou_othersWith_25 2 rfl ?_
    refine gf_iload C dd_Ou_othersWith_26 5 rfl ?_
    refine gf_iload_n C dd_Ou_othersWith_28 4 rfl ?_
    refine gf_iload C dd_Ou_othersWith_29 6 rfl ?_
    refine gf_aload_n C dd_Ou_othersWith_31 3 rfl ?_
    refine gf_getI (z := 1) C gf_cl5 fl_Ou_15 dd_Ou_othersWith_32 rfl rfl (show gf_is 81 41 0 5 5 by decide) (fun hv32 => ?_)
    refine gf_callVi (st := [.int (gf_i (k + 1)), .ref (gf_ad E 59), .long (gf_l 0)]) (As := [.int (gf_i s), .int (gf_i k), .int (gf_i f), .int (gf_i (μ 41 1))]) C wk_Ou_48 gf_cl0 hg (ct_Gd_follow (gf_xl X) E g s k f (μ 41 1) μ hg (hG) (by omega) (by omega) (by omega)) rfl ⟨rfl, rfl, rfl, rfl⟩ (Nat.le_of_ble_eq_true rfl) rfl dd_Ou_othersWith_35 (fun r35 m35 hR35 hp35 => ?_)
    have hr35 := hp35.1
    refine gf_pm hp35.2 ?_
    refine gf_callVl (st := [.long (gf_l 0)]) (As := [.int (gf_i (k + 1)), .int (gf_i r35)]) C wk_Ou_44 gf_cl1 (show gf_is 81 59 0 1 2 by decide) (ct_Ou_valueOf (gf_xl X) E (k + 1) r35 μ (by omega) (by omega)) rfl ⟨rfl, rfl, rfl, rfl⟩ (Nat.le_of_ble_eq_true rfl) rfl dd_Ou_othersWith_38 (fun r38 m38 hR38 hp38 => ?_)
    have hr38 := hp38.1
    refine gf_pm hp38.2 ?_
    have hvz := hv r35 (by omega) (by omega)
    rw [← hr38] at hvz
    refine gf_ladd C dd_Ou_othersWith_41 ?_
    refine gf_lret C hQ dd_Ou_othersWith_42 (by omega) ?_
    refine ⟨⟨?_, by omega, by omega⟩, rfl⟩
    unfold pf_oth
    rw [hr38, hr35.1]
    first | (rw [if_pos (by omega)]; done) | (rw [if_neg (by omega)]; done)
end
section
/-! the fewest others, the ways to fill -/
theorem gf_up_o {μ : gf_M} {k j v a b : Int} (h : ¬ (a = k ∧ b = j)) : gf_up μ k j v a b = μ a b := by simp [gf_up, h]
theorem pf_oth_congr {K F S n : Int} {x x' : Int → Int} {k s f : Int} {nx nx' : Int → Int} (hx : x k = x' k) (h : ∀ z : Int, 0 ≤ z → z ≤ 10 → nx z = nx' z) : pf_oth K F S n x k s f nx = pf_oth K F S n x' k s f nx' := by
  have hz := pf_fol_R K F S s k f n
  unfold pf_oth
  rw [hx, h _ hz.1 hz.2]
def pf_pkN (K F S n c : Int) (x : Int → Int) (k s : Int) : Int := pf_pick (fun f => decide (pf_oth K F S n x k s f (pf_VN K F S n c x (n - 1 - k).toNat) = pf_VN K F S n c x (n - k).toNat s)) 9 0
theorem pf_pkN_R (K F S n c : Int) (x : Int → Int) (k s : Int) : 0 ≤ pf_pkN K F S n c x k s ∧ pf_pkN K F S n c x k s ≤ 9 := by
  have := pf_pick_R (fun f => decide (pf_oth K F S n x k s f (pf_VN K F S n c x (n - 1 - k).toNat) = pf_VN K F S n c x (n - k).toNat s)) 9 0
  unfold pf_pkN
  omega
/-- y the figures, -1 where smeared -/
def pf_way (K F S n : Int) (y : Int → Int) (k s f : Int) (nx : Int → Int) : Int := if y k ≠ -1 ∧ y k ≠ f then 0 else nx (pf_fol K F S s k f n)
def pf_sumf (g : Int → Int) : Nat → Int
  | 0 => 0
  | f + 1 => pf_sumf g f + g f
theorem pf_sumf_congr {g h : Int → Int} : ∀ n : Nat, (∀ f : Int, 0 ≤ f → f < n → g f = h f) → pf_sumf g n = pf_sumf h n
  | 0, _ => rfl
  | n + 1, e => by unfold pf_sumf; rw [pf_sumf_congr n (fun f h0 h1 => e f h0 (by omega)), e n (by omega) (by omega)]
theorem pf_sumf_R {g : Int → Int} {B : Int} : ∀ n : Nat, (∀ f : Int, 0 ≤ f → f < n → 0 ≤ g f ∧ g f ≤ B) → 0 ≤ pf_sumf g n ∧ pf_sumf g n ≤ B * n
  | 0, _ => by simp [pf_sumf]
  | n + 1, h => by
    have ih := pf_sumf_R n (fun f h0 h1 => h f h0 (by omega))
    have := h n (by omega) (by omega)
    unfold pf_sumf
    have e : B * ((n + 1 : Nat) : Int) = B * n + B := by rw [Int.natCast_add, Int.mul_add]; simp
    omega
def pf_stW (K F S n : Int) (y : Int → Int) (r : Nat) (s : Int) (nx : Int → Int) : Int := pf_sumf (fun f => pf_way K F S n y (n - 1 - r) s f nx) 10
def pf_VW (K F S n c : Int) (y : Int → Int) : Nat → Int → Int := pf_dp (pf_stW K F S n y) (pf_eC K n c 1 0)
theorem pf_VW_R (K F S n c : Int) (y : Int → Int) : ∀ (r : Nat) (s : Int), 0 ≤ s ∧ s ≤ 10 → 0 ≤ pf_VW K F S n c y r s ∧ pf_VW K F S n c y r s ≤ 10 ^ r
  | 0, s, _ => by unfold pf_VW pf_dp pf_eC; split <;> simp
  | r + 1, s, _ => by
    show 0 ≤ pf_sumf _ 10 ∧ pf_sumf _ 10 ≤ 10 ^ (r + 1)
    have := pf_sumf_R (g := fun f => pf_way K F S n y (n - 1 - r) s f (pf_VW K F S n c y r)) (B := 10 ^ r) 10 (fun f h0 h1 => by
      have h2 := pf_VW_R K F S n c y r (pf_fol K F S s (n - 1 - r) f n) (pf_fol_R _ _ _ _ _ _ _)
      show 0 ≤ pf_way _ _ _ _ _ _ _ _ _ ∧ pf_way _ _ _ _ _ _ _ _ _ ≤ _
      unfold pf_way
      split <;> omega)
    rw [Int.pow_succ]
    exact this
theorem pf_way_congr {K F S n : Int} {y y' : Int → Int} {k s f : Int} {nx nx' : Int → Int} (hx : y k = y' k) (h : ∀ z : Int, 0 ≤ z → z ≤ 10 → nx z = nx' z) : pf_way K F S n y k s f nx = pf_way K F S n y' k s f nx' := by
  have hz := pf_fol_R K F S s k f n
  unfold pf_way
  rw [hx, h _ hz.1 hz.2]
def pf_pkW (K F S n c : Int) (y : Int → Int) (k s : Int) : Int := pf_pick (fun f => decide (pf_way K F S n y k s f (pf_VW K F S n c y (n - 1 - k).toNat) ≠ 0)) 9 0
theorem pf_pkW_R (K F S n c : Int) (y : Int → Int) (k s : Int) : 0 ≤ pf_pkW K F S n c y k s ∧ pf_pkW K F S n c y k s ≤ 9 := by
  have := pf_pick_R (fun f => decide (pf_way K F S n y k s f (pf_VW K F S n c y (n - 1 - k).toNat) ≠ 0)) 9 0
  unfold pf_pkW
  omega
theorem dd_Ou_fewestOthers_0 : decode cc_Ou_fewestOthers 0 = .ok (.aload_n 2, 1) := by decide +kernel
theorem dd_Ou_fewestOthers_1 : decode cc_Ou_fewestOthers 1 = .ok (.getfield 15, 3) := by decide +kernel
theorem dd_Ou_fewestOthers_4 : decode cc_Ou_fewestOthers 4 = .ok (.istore 4, 2) := by decide +kernel
theorem dd_Ou_fewestOthers_6 : decode cc_Ou_fewestOthers 6 = .ok (.aload_n 0, 1) := by decide +kernel
theorem dd_Ou_fewestOthers_7 : decode cc_Ou_fewestOthers 7 = .ok (.aload_n 1, 1) := by decide +kernel
theorem dd_Ou_fewestOthers_8 : decode cc_Ou_fewestOthers 8 = .ok (.iload 4, 2) := by decide +kernel
theorem dd_Ou_fewestOthers_10 : decode cc_Ou_fewestOthers 10 = .ok (.iload_n 3, 1) := by decide +kernel
theorem dd_Ou_fewestOthers_11 : decode cc_Ou_fewestOthers 11 = .ok (.iconst 0, 1) := by decide +kernel
theorem dd_Ou_fewestOthers_12 : decode cc_Ou_fewestOthers 12 = .ok (.bipush 100, 2) := by decide +kernel
theorem dd_Ou_fewestOthers_14 : decode cc_Ou_fewestOthers 14 = .ok (.invokevirtual 21, 3) := by decide +kernel
theorem dd_Ou_fewestOthers_17 : decode cc_Ou_fewestOthers 17 = .ok (.iload 4, 2) := by decide +kernel
theorem dd_Ou_fewestOthers_19 : decode cc_Ou_fewestOthers 19 = .ok (.iconst 1, 1) := by decide +kernel
theorem dd_Ou_fewestOthers_20 : decode cc_Ou_fewestOthers 20 = .ok (.isub, 1) := by decide +kernel
theorem dd_Ou_fewestOthers_21 : decode cc_Ou_fewestOthers 21 = .ok (.istore 5, 2) := by decide +kernel
theorem dd_Ou_fewestOthers_23 : decode cc_Ou_fewestOthers 23 = .ok (.iload 5, 2) := by decide +kernel
theorem dd_Ou_fewestOthers_25 : decode cc_Ou_fewestOthers 25 = .ok (.ifCond .lt 75, 3) := by decide +kernel
theorem dd_Ou_fewestOthers_28 : decode cc_Ou_fewestOthers 28 = .ok (.iconst 0, 1) := by decide +kernel
theorem dd_Ou_fewestOthers_29 : decode cc_Ou_fewestOthers 29 = .ok (.istore 6, 2) := by decide +kernel
theorem dd_Ou_fewestOthers_31 : decode cc_Ou_fewestOthers 31 = .ok (.iload 6, 2) := by decide +kernel
theorem dd_Ou_fewestOthers_33 : decode cc_Ou_fewestOthers 33 = .ok (.bipush 11, 2) := by decide +kernel
theorem dd_Ou_fewestOthers_35 : decode cc_Ou_fewestOthers 35 = .ok (.if_icmp .ge 59, 3) := by decide +kernel
theorem dd_Ou_fewestOthers_38 : decode cc_Ou_fewestOthers 38 = .ok (.ldc2_w 25, 3) := by decide +kernel
theorem dd_Ou_fewestOthers_41 : decode cc_Ou_fewestOthers 41 = .ok (.lstore 7, 2) := by decide +kernel
theorem dd_Ou_fewestOthers_43 : decode cc_Ou_fewestOthers 43 = .ok (.iconst 0, 1) := by decide +kernel
theorem dd_Ou_fewestOthers_44 : decode cc_Ou_fewestOthers 44 = .ok (.istore 9, 2) := by decide +kernel
theorem dd_Ou_fewestOthers_46 : decode cc_Ou_fewestOthers 46 = .ok (.iload 9, 2) := by decide +kernel
theorem dd_Ou_fewestOthers_48 : decode cc_Ou_fewestOthers 48 = .ok (.bipush 10, 2) := by decide +kernel
theorem dd_Ou_fewestOthers_50 : decode cc_Ou_fewestOthers 50 = .ok (.if_icmp .ge 28, 3) := by decide +kernel
theorem dd_Ou_fewestOthers_53 : decode cc_Ou_fewestOthers 53 = .ok (.lload 7, 2) := by decide +kernel
theorem dd_Ou_fewestOthers_55 : decode cc_Ou_fewestOthers 55 = .ok (.aload_n 0, 1) := by decide +kernel
theorem dd_Ou_fewestOthers_56 : decode cc_Ou_fewestOthers 56 = .ok (.aload_n 1, 1) := by decide +kernel
theorem dd_Ou_fewestOthers_57 : decode cc_Ou_fewestOthers 57 = .ok (.aload_n 2, 1) := by decide +kernel
theorem dd_Ou_fewestOthers_58 : decode cc_Ou_fewestOthers 58 = .ok (.iload 5, 2) := by decide +kernel
theorem dd_Ou_fewestOthers_60 : decode cc_Ou_fewestOthers 60 = .ok (.iload 6, 2) := by decide +kernel
theorem dd_Ou_fewestOthers_62 : decode cc_Ou_fewestOthers 62 = .ok (.iload 9, 2) := by decide +kernel
theorem dd_Ou_fewestOthers_64 : decode cc_Ou_fewestOthers 64 = .ok (.invokevirtual 27, 3) := by decide +kernel
theorem dd_Ou_fewestOthers_67 : decode cc_Ou_fewestOthers 67 = .ok (.invokestatic 31, 3) := by decide +kernel
theorem dd_Ou_fewestOthers_70 : decode cc_Ou_fewestOthers 70 = .ok (.lstore 7, 2) := by decide +kernel
theorem dd_Ou_fewestOthers_72 : decode cc_Ou_fewestOthers 72 = .ok (.iinc 9 1, 3) := by decide +kernel
theorem dd_Ou_fewestOthers_75 : decode cc_Ou_fewestOthers 75 = .ok (.goto (-29), 3) := by decide +kernel
theorem dd_Ou_fewestOthers_78 : decode cc_Ou_fewestOthers 78 = .ok (.aload_n 0, 1) := by decide +kernel
theorem dd_Ou_fewestOthers_79 : decode cc_Ou_fewestOthers 79 = .ok (.iload 5, 2) := by decide +kernel
theorem dd_Ou_fewestOthers_81 : decode cc_Ou_fewestOthers 81 = .ok (.iload 6, 2) := by decide +kernel
theorem dd_Ou_fewestOthers_83 : decode cc_Ou_fewestOthers 83 = .ok (.lload 7, 2) := by decide +kernel
theorem dd_Ou_fewestOthers_85 : decode cc_Ou_fewestOthers 85 = .ok (.invokevirtual 37, 3) := by decide +kernel
theorem dd_Ou_fewestOthers_88 : decode cc_Ou_fewestOthers 88 = .ok (.iinc 6 1, 3) := by decide +kernel
theorem dd_Ou_fewestOthers_91 : decode cc_Ou_fewestOthers 91 = .ok (.goto (-60), 3) := by decide +kernel
theorem dd_Ou_fewestOthers_94 : decode cc_Ou_fewestOthers 94 = .ok (.iinc 5 (-1), 3) := by decide +kernel
theorem dd_Ou_fewestOthers_97 : decode cc_Ou_fewestOthers 97 = .ok (.goto (-74), 3) := by decide +kernel
theorem dd_Ou_fewestOthers_100 : decode cc_Ou_fewestOthers 100 = .ok (.aload_n 0, 1) := by decide +kernel
theorem dd_Ou_fewestOthers_101 : decode cc_Ou_fewestOthers 101 = .ok (.iconst 0, 1) := by decide +kernel
theorem dd_Ou_fewestOthers_102 : decode cc_Ou_fewestOthers 102 = .ok (.putfield 41, 3) := by decide +kernel
theorem dd_Ou_fewestOthers_105 : decode cc_Ou_fewestOthers 105 = .ok (.iconst 0, 1) := by decide +kernel
theorem dd_Ou_fewestOthers_106 : decode cc_Ou_fewestOthers 106 = .ok (.istore 5, 2) := by decide +kernel
theorem dd_Ou_fewestOthers_108 : decode cc_Ou_fewestOthers 108 = .ok (.iconst 0, 1) := by decide +kernel
theorem dd_Ou_fewestOthers_109 : decode cc_Ou_fewestOthers 109 = .ok (.istore 6, 2) := by decide +kernel
theorem dd_Ou_fewestOthers_111 : decode cc_Ou_fewestOthers 111 = .ok (.iload 6, 2) := by decide +kernel
theorem dd_Ou_fewestOthers_113 : decode cc_Ou_fewestOthers 113 = .ok (.iload 4, 2) := by decide +kernel
theorem dd_Ou_fewestOthers_115 : decode cc_Ou_fewestOthers 115 = .ok (.if_icmp .ge 77, 3) := by decide +kernel
theorem dd_Ou_fewestOthers_118 : decode cc_Ou_fewestOthers 118 = .ok (.iconst 0, 1) := by decide +kernel
theorem dd_Ou_fewestOthers_119 : decode cc_Ou_fewestOthers 119 = .ok (.istore 7, 2) := by decide +kernel
theorem dd_Ou_fewestOthers_121 : decode cc_Ou_fewestOthers 121 = .ok (.iload 7, 2) := by decide +kernel
theorem dd_Ou_fewestOthers_123 : decode cc_Ou_fewestOthers 123 = .ok (.bipush 9, 2) := by decide +kernel
theorem dd_Ou_fewestOthers_125 : decode cc_Ou_fewestOthers 125 = .ok (.if_icmp .ge 33, 3) := by decide +kernel
theorem dd_Ou_fewestOthers_128 : decode cc_Ou_fewestOthers 128 = .ok (.aload_n 0, 1) := by decide +kernel
theorem dd_Ou_fewestOthers_129 : decode cc_Ou_fewestOthers 129 = .ok (.aload_n 1, 1) := by decide +kernel
theorem dd_Ou_fewestOthers_130 : decode cc_Ou_fewestOthers 130 = .ok (.aload_n 2, 1) := by decide +kernel
theorem dd_Ou_fewestOthers_131 : decode cc_Ou_fewestOthers 131 = .ok (.iload 6, 2) := by decide +kernel
theorem dd_Ou_fewestOthers_133 : decode cc_Ou_fewestOthers 133 = .ok (.iload 5, 2) := by decide +kernel
theorem dd_Ou_fewestOthers_135 : decode cc_Ou_fewestOthers 135 = .ok (.iload 7, 2) := by decide +kernel
theorem dd_Ou_fewestOthers_137 : decode cc_Ou_fewestOthers 137 = .ok (.invokevirtual 27, 3) := by decide +kernel
theorem dd_Ou_fewestOthers_140 : decode cc_Ou_fewestOthers 140 = .ok (.aload_n 0, 1) := by decide +kernel
theorem dd_Ou_fewestOthers_141 : decode cc_Ou_fewestOthers 141 = .ok (.iload 6, 2) := by decide +kernel
theorem dd_Ou_fewestOthers_143 : decode cc_Ou_fewestOthers 143 = .ok (.iload 5, 2) := by decide +kernel
theorem dd_Ou_fewestOthers_145 : decode cc_Ou_fewestOthers 145 = .ok (.invokevirtual 44, 3) := by decide +kernel
theorem dd_Ou_fewestOthers_148 : decode cc_Ou_fewestOthers 148 = .ok (.lcmp, 1) := by decide +kernel
theorem dd_Ou_fewestOthers_149 : decode cc_Ou_fewestOthers 149 = .ok (.ifCond .eq 9, 3) := by decide +kernel
theorem dd_Ou_fewestOthers_152 : decode cc_Ou_fewestOthers 152 = .ok (.iinc 7 1, 3) := by decide +kernel
theorem dd_Ou_fewestOthers_155 : decode cc_Ou_fewestOthers 155 = .ok (.goto (-34), 3) := by decide +kernel
theorem dd_Ou_fewestOthers_158 : decode cc_Ou_fewestOthers 158 = .ok (.aload_n 0, 1) := by decide +kernel
theorem dd_Ou_fewestOthers_159 : decode cc_Ou_fewestOthers 159 = .ok (.aload_n 0, 1) := by decide +kernel
theorem dd_Ou_fewestOthers_160 : decode cc_Ou_fewestOthers 160 = .ok (.getfield 41, 3) := by decide +kernel
theorem dd_Ou_fewestOthers_163 : decode cc_Ou_fewestOthers 163 = .ok (.bipush 10, 2) := by decide +kernel
theorem dd_Ou_fewestOthers_165 : decode cc_Ou_fewestOthers 165 = .ok (.imul, 1) := by decide +kernel
theorem dd_Ou_fewestOthers_166 : decode cc_Ou_fewestOthers 166 = .ok (.iload 7, 2) := by decide +kernel
theorem dd_Ou_fewestOthers_168 : decode cc_Ou_fewestOthers 168 = .ok (.iadd, 1) := by decide +kernel
theorem dd_Ou_fewestOthers_169 : decode cc_Ou_fewestOthers 169 = .ok (.putfield 41, 3) := by decide +kernel
theorem dd_Ou_fewestOthers_172 : decode cc_Ou_fewestOthers 172 = .ok (.aload_n 1, 1) := by decide +kernel
theorem dd_Ou_fewestOthers_173 : decode cc_Ou_fewestOthers 173 = .ok (.iload 5, 2) := by decide +kernel
theorem dd_Ou_fewestOthers_175 : decode cc_Ou_fewestOthers 175 = .ok (.iload 6, 2) := by decide +kernel
theorem dd_Ou_fewestOthers_177 : decode cc_Ou_fewestOthers 177 = .ok (.iload 7, 2) := by decide +kernel
theorem dd_Ou_fewestOthers_179 : decode cc_Ou_fewestOthers 179 = .ok (.iload 4, 2) := by decide +kernel
theorem dd_Ou_fewestOthers_181 : decode cc_Ou_fewestOthers 181 = .ok (.invokevirtual 48, 3) := by decide +kernel
theorem dd_Ou_fewestOthers_184 : decode cc_Ou_fewestOthers 184 = .ok (.istore 5, 2) := by decide +kernel
theorem dd_Ou_fewestOthers_186 : decode cc_Ou_fewestOthers 186 = .ok (.iinc 6 1, 3) := by decide +kernel
theorem dd_Ou_fewestOthers_189 : decode cc_Ou_fewestOthers 189 = .ok (.goto (-78), 3) := by decide +kernel
theorem dd_Ou_fewestOthers_192 : decode cc_Ou_fewestOthers 192 = .ok (.aload_n 0, 1) := by decide +kernel
theorem dd_Ou_fewestOthers_193 : decode cc_Ou_fewestOthers 193 = .ok (.iconst 0, 1) := by decide +kernel
theorem dd_Ou_fewestOthers_194 : decode cc_Ou_fewestOthers 194 = .ok (.iconst 0, 1) := by decide +kernel
theorem dd_Ou_fewestOthers_195 : decode cc_Ou_fewestOthers 195 = .ok (.invokevirtual 44, 3) := by decide +kernel
theorem dd_Ou_fewestOthers_198 : decode cc_Ou_fewestOthers 198 = .ok (.l2i, 1) := by decide +kernel
theorem dd_Ou_fewestOthers_199 : decode cc_Ou_fewestOthers 199 = .ok (.ireturn, 1) := by decide +kernel
set_option maxRecDepth 100000 in
set_option maxHeartbeats 4000000 in
theorem ct_Ou_fewestOthers (l : Launch) (E : gf_E) (g : Int) (μ : gf_M) (hg : gf_oGd g) (hg58 : g ≤ 58) (hG : gf_okG μ g) (c : Int) (hc : gf_R c) (hs : 0 ≤ μ 41 1 ∧ μ 41 1 ≤ 8) (hF : gf_okF μ 42 (μ 41 1)) : gf_Mi l E yy_Ou_fewestOthers cc_Ou_fewestOthers 10 .int (gf_rm 3 72) 81 gf_ref μ [.ref (gf_ad E 59), .ref (gf_ad E g), .ref (gf_ad E 41), .int (gf_i c)] (fun r μ' => (r = pf_VN (μ g 0) (μ g 1) (μ g 2) (μ 41 1) c (μ 42) (μ 41 1).toNat 0 ∧ 0 ≤ r ∧ r ≤ 100) ∧ (μ' 59 1 = (pf_run (μ g 0) (μ g 1) (μ g 2) (μ 41 1) (pf_pkN (μ g 0) (μ g 1) (μ g 2) (μ 41 1) c (μ 42)) (μ 41 1).toNat).2 ∧ ∀ x y : Int, x ≠ 60 → ¬ (x = 59 ∧ y = 1) → μ' x y = μ x y)) := by
  refine gf_mi (by decide +kernel) (Nat.le_of_ble_eq_true rfl) (by decide) (fun X Q hlx C hQ => ?_)
  subst hlx
  replace C : gf_C X E cc_Ou_fewestOthers 10 "GuardFigures$Outlook" (gf_rm 3 72) := C
  show gf_G X E Q 10 gf_φ μ 0 [(0, .ref (gf_ad E 59)), (1, .ref (gf_ad E g)), (2, .ref (gf_ad E 41)), (3, .int (gf_i c))] []
  obtain ⟨VV, hVV⟩ : ∃ z, z = pf_VN (μ g 0) (μ g 1) (μ g 2) (μ 41 1) c (μ 42) := ⟨_, rfl⟩
  have hVR : ∀ (r : Nat) (s : Int), 0 ≤ s → s ≤ 10 → 0 ≤ VV r s ∧ VV r s ≤ 100 := fun r s h0 h1 => by rw [hVV]; exact pf_VN_R _ _ _ _ _ _ r s ⟨h0, h1⟩
  have hVS : ∀ (k s : Int), 0 ≤ k → k < μ 41 1 → VV (μ 41 1 - k).toNat s = pf_minf (fun f => pf_oth (μ g 0) (μ g 1) (μ g 2) (μ 41 1) (μ 42) k s f (VV (μ 41 1 - 1 - k).toNat)) 10 := fun k s h0 h1 => by
    rw [show (μ 41 1 - k).toNat = (μ 41 1 - 1 - k).toNat + 1 by omega, hVV]
    show pf_minf (fun f => pf_oth _ _ _ _ _ (μ 41 1 - 1 - ((μ 41 1 - 1 - k).toNat : Nat)) s f _) 10 = _
    rw [show (μ 41 1 - 1 - ((μ 41 1 - 1 - k).toNat : Nat) : Int) = k by omega]
    rfl
  refine gf_aload_n C dd_Ou_fewestOthers_0 2 rfl ?_
  refine gf_getI (z := 1) C gf_cl5 fl_Ou_15 dd_Ou_fewestOthers_1 rfl rfl (show gf_is 81 41 0 5 5 by decide) (fun hv1 => ?_)
  refine gf_nm (fun x4 hx4 => ?_)
  refine gf_istore (lv' := [(4, .int (gf_i x4)), (0, .ref (gf_ad E 59)), (1, .ref (gf_ad E g)), (2, .ref (gf_ad E 41)), (3, .int (gf_i c))]) C dd_Ou_fewestOthers_4 (by decide) rfl ?_
  refine gf_aload_n C dd_Ou_fewestOthers_6 1 rfl ?_
  refine gf_aload_n C dd_Ou_fewestOthers_7 2 rfl ?_
  refine gf_iload C dd_Ou_fewestOthers_8 0 rfl ?_
  refine gf_iload_n C dd_Ou_fewestOthers_10 4 rfl ?_
  refine gf_iconst C dd_Ou_fewestOthers_11 ?_
  refine gf_bipush C dd_Ou_fewestOthers_12 (by decide +kernel) ?_
  refine gf_callVv (st := []) (As := [.ref (gf_ad E g), .int (gf_i x4), .int (gf_i c), .int (gf_i 0), .int (gf_i 100)]) C wk_Ou_21 gf_cl1 (show gf_is 81 59 0 1 2 by decide) (ct_Ou_endWithCheck (gf_xl X) E g μ hg hg58 hG x4 c 0 100 (by omega) hc (by decide) (by decide)) rfl ⟨rfl, rfl, rfl, rfl⟩ (Nat.le_of_ble_eq_true rfl) rfl dd_Ou_fewestOthers_14 (fun m14 hp14 => ?_)
  obtain ⟨hp14a, hp14b⟩ := hp14
  refine gf_iload C dd_Ou_fewestOthers_17 0 rfl ?_
  refine gf_iconst C dd_Ou_fewestOthers_19 ?_
  refine gf_isub C dd_Ou_fewestOthers_20 ?_
  refine gf_nm (fun x21 hx21 => ?_)
  refine gf_istore (lv' := [(5, .int (gf_i x21)), (4, .int (gf_i x4)), (0, .ref (gf_ad E 59)), (1, .ref (gf_ad E g)), (2, .ref (gf_ad E 41)), (3, .int (gf_i c))]) C dd_Ou_fewestOthers_21 (by decide) rfl ?_
  have L23_1 : ∀ (N : Nat) (k : Int) (m : gf_M) , (-1 ≤ k ∧ k < μ 41 1 ∧ gf_tb m (μ 41 1) VV (k + 1) ∧ ∀ x y : Int, x ≠ 60 → m x y = μ x y) → (k + 1).toNat < N → gf_G X E Q 10 gf_φ m 23 [(5, .int (gf_i k)), (0, .ref (gf_ad E 59)), (1, .ref (gf_ad E g)), (2, .ref (gf_ad E 41)), (3, .int (gf_i c)), (4, .int (gf_i x4))] [] := by
    intro N
    induction N with
    | zero => intro k m hinv hN; exact absurd hN (Nat.not_lt_zero _)
    | succ N ih23_1 =>
      intro k m hinv hN
      have hinv0 := hinv
      obtain ⟨hk0, hk1, hk2, hk3⟩ := hinv
      refine gf_iload C dd_Ou_fewestOthers_23 0 rfl ?_
      refine gf_if_lt 100 C dd_Ou_fewestOthers_25 (by decide) (by omega) (fun h25 => ?_) (fun h25 => ?_)
      · skip
        have hk1 : k = -1 := by omega
        have htb0 : gf_tb m (μ 41 1) VV 0 := by have := hk2; rw [hk1] at this; exact this
        refine gf_aload_n C dd_Ou_fewestOthers_100 1 rfl ?_
        refine gf_iconst C dd_Ou_fewestOthers_101 ?_
        refine gf_putI (z := 1) C gf_cl1 fl_Ou_41 dd_Ou_fewestOthers_102 rfl rfl rfl (by decide +kernel) (show gf_is 81 59 0 1 2 by decide) (by omega) ?_
        refine gf_nmM (fun m102 hm102 => ?_)
        refine gf_iconst C dd_Ou_fewestOthers_105 ?_
        refine gf_istore (lv' := [(5, .int (gf_i 0)), (0, .ref (gf_ad E 59)), (1, .ref (gf_ad E g)), (2, .ref (gf_ad E 41)), (3, .int (gf_i c)), (4, .int (gf_i x4))]) C dd_Ou_fewestOthers_106 (by decide) rfl ?_
        refine gf_iconst C dd_Ou_fewestOthers_108 ?_
        refine gf_istore (lv' := [(6, .int (gf_i 0)), (5, .int (gf_i 0)), (0, .ref (gf_ad E 59)), (1, .ref (gf_ad E g)), (2, .ref (gf_ad E 41)), (3, .int (gf_i c)), (4, .int (gf_i x4))]) C dd_Ou_fewestOthers_109 (by decide) rfl ?_
        have L111_2 : ∀ (N : Nat) (s k : Int) (m : gf_M) , (0 ≤ k ∧ k ≤ μ 41 1 ∧ s = (pf_run (μ g 0) (μ g 1) (μ g 2) (μ 41 1) (pf_pkN (μ g 0) (μ g 1) (μ g 2) (μ 41 1) c (μ 42)) k.toNat).1 ∧ m 59 1 = (pf_run (μ g 0) (μ g 1) (μ g 2) (μ 41 1) (pf_pkN (μ g 0) (μ g 1) (μ g 2) (μ 41 1) c (μ 42)) k.toNat).2 ∧ gf_tb m (μ 41 1) VV 0 ∧ ∀ x y : Int, x ≠ 60 → ¬ (x = 59 ∧ y = 1) → m x y = μ x y) → (8 - k).toNat < N → gf_G X E Q 10 gf_φ m 111 [(5, .int (gf_i s)), (6, .int (gf_i k)), (0, .ref (gf_ad E 59)), (1, .ref (gf_ad E g)), (2, .ref (gf_ad E 41)), (3, .int (gf_i c)), (4, .int (gf_i x4))] [] := by
          intro N
          induction N with
          | zero => intro s k m hinv hN; exact absurd hN (Nat.not_lt_zero _)
          | succ N ih111_2 =>
            intro s k m hinv hN
            have hinv0 := hinv
            obtain ⟨hk0, hk1, hrs, hrl, htc, ef111⟩ := hinv
            have hsR := pf_run_R (μ g 0) (μ g 1) (μ g 2) (μ 41 1) (pf_pkN (μ g 0) (μ g 1) (μ g 2) (μ 41 1) c (μ 42)) k.toNat
            rw [← hrs] at hsR
            have hlB := pf_run_B (K := μ g 0) (F := μ g 1) (S := μ g 2) (n := μ 41 1) (pk := pf_pkN (μ g 0) (μ g 1) (μ g 2) (μ 41 1) c (μ 42)) (fun a b => pf_pkN_R _ _ _ _ _ _ a b) k.toNat
            rw [← hrl] at hlB
            have h108 := pf_10_8 (k := k.toNat) (by omega)
            have e41c : m 41 1 = μ 41 1 := ef111 41 1 (by decide) (by decide)
            have hG111 : gf_okG m g := by unfold gf_okG; rw [ef111 g 0 (by omega) (by omega), ef111 g 1 (by omega) (by omega), ef111 g 2 (by omega) (by omega)]; exact hG
            refine gf_iload C dd_Ou_fewestOthers_111 1 rfl ?_
            refine gf_iload C dd_Ou_fewestOthers_113 6 rfl ?_
            refine gf_icmp_ge 192 C dd_Ou_fewestOthers_115 (by decide) (by omega) (by omega) (fun h115 => ?_) (fun h115 => ?_)
            · skip
              refine gf_aload_n C dd_Ou_fewestOthers_192 2 rfl ?_
              refine gf_iconst C dd_Ou_fewestOthers_193 ?_
              refine gf_iconst C dd_Ou_fewestOthers_194 ?_
              skip
              refine gf_callVl (st := []) (As := [.int (gf_i 0), .int (gf_i 0)]) C wk_Ou_44 gf_cl1 (show gf_is 81 59 0 1 2 by decide) (ct_Ou_valueOf (gf_xl X) E 0 0 m (by omega) (by omega)) rfl ⟨rfl, rfl, rfl, rfl⟩ (Nat.le_of_ble_eq_true rfl) rfl dd_Ou_fewestOthers_195 (fun r195 m195 hR195 hp195 => ?_)
              have hr195 := hp195.1
              refine gf_pm hp195.2 ?_
              have hv00 := hVR (μ 41 1).toNat 0 (by omega) (by omega)
              have hr195b : r195 = VV (μ 41 1).toNat 0 := by rw [hr195, htc 0 0 (by omega) (by omega) (by omega) (by omega), show μ 41 1 - 0 = μ 41 1 by omega]
              refine gf_gl2i C dd_Ou_fewestOthers_198 ?_
              refine gf_iret C hQ dd_Ou_fewestOthers_199 (by omega) ?_
              have hkn : k = μ 41 1 := by omega
              refine ⟨⟨?_, by omega, by omega⟩, ?_, ef111⟩
              · rw [hr195]
                have := htc 0 0 (by omega) (by omega) (by omega) (by omega)
                rw [show (0 : Int) * 11 + 0 = 0 * 11 + 0 by rfl, this, hVV, show μ 41 1 - 0 = μ 41 1 by omega]
              · rw [hrl, hkn]
            · skip
              refine gf_iconst C dd_Ou_fewestOthers_118 ?_
              refine gf_istore (lv' := [(7, .int (gf_i 0)), (5, .int (gf_i s)), (6, .int (gf_i k)), (0, .ref (gf_ad E 59)), (1, .ref (gf_ad E g)), (2, .ref (gf_ad E 41)), (3, .int (gf_i c)), (4, .int (gf_i x4))]) C dd_Ou_fewestOthers_119 (by decide) rfl ?_
              have L121_3 : ∀ (N : Nat) (f : Int) , (0 ≤ f ∧ f ≤ 9 ∧ pf_pkN (μ g 0) (μ g 1) (μ g 2) (μ 41 1) c (μ 42) k s = pf_pick (fun f => decide (pf_oth (μ g 0) (μ g 1) (μ g 2) (μ 41 1) (μ 42) k s f (VV (μ 41 1 - 1 - k).toNat) = VV (μ 41 1 - k).toNat s)) (9 - f).toNat f) → (9 - f).toNat < N → gf_G X E Q 10 gf_φ m 121 [(7, .int (gf_i f)), (5, .int (gf_i s)), (6, .int (gf_i k)), (0, .ref (gf_ad E 59)), (1, .ref (gf_ad E g)), (2, .ref (gf_ad E 41)), (3, .int (gf_i c)), (4, .int (gf_i x4))] [] := by
                intro N
                induction N with
                | zero => intro f hinv hN; exact absurd hN (Nat.not_lt_zero _)
                | succ N ih121_3 =>
                  intro f hinv hN
                  have hinv0 := hinv
                  obtain ⟨hf0, hf1, hf2⟩ := hinv
                  have hvc : ∀ z : Int, 0 ≤ z → z ≤ 10 → 0 ≤ m 60 ((k + 1) * 11 + z) ∧ m 60 ((k + 1) * 11 + z) ≤ 100 := fun z h0 h1 => by rw [htc (k + 1) z (by omega) (by omega) h0 h1]; exact hVR _ z h0 h1
                  refine gf_iload C dd_Ou_fewestOthers_121 0 rfl ?_
                  refine gf_bipush C dd_Ou_fewestOthers_123 (by decide +kernel) ?_
                  refine gf_icmp_ge 158 C dd_Ou_fewestOthers_125 (by decide) (by omega) (by omega) (fun h125 => ?_) (fun h125 => ?_)
                  · skip
                    have hpick : f = pf_pkN (μ g 0) (μ g 1) (μ g 2) (μ 41 1) c (μ 42) k s := by
                      rw [hf2]
                      first
                      | (rw [show (9 - f).toNat = 0 by omega]; rfl)
                      | (rw [show (9 - f).toNat = (9 - (f + 1)).toNat + 1 by omega]
                         show _ = if decide _ = true then _ else _
                         rw [if_pos (by rw [decide_eq_true_eq, ← hoe, ← hve]; omega)])
                    refine gf_aload_n C dd_Ou_fewestOthers_158 3 rfl ?_
                    refine gf_aload_n C dd_Ou_fewestOthers_159 3 rfl ?_
                    refine gf_getI (z := 1) C gf_cl1 fl_Ou_41 dd_Ou_fewestOthers_160 rfl rfl (show gf_is 81 59 0 1 2 by decide) (fun hv160 => ?_)
                    refine gf_bipush C dd_Ou_fewestOthers_163 (by decide +kernel) ?_
                    refine gf_imul C dd_Ou_fewestOthers_165 ?_
                    refine gf_iload C dd_Ou_fewestOthers_166 0 rfl ?_
                    refine gf_iadd C dd_Ou_fewestOthers_168 ?_
                    refine gf_putI (z := 1) C gf_cl1 fl_Ou_41 dd_Ou_fewestOthers_169 rfl rfl rfl (by decide +kernel) (show gf_is 81 59 0 1 2 by decide) (by omega) ?_
                    refine gf_nmM (fun m169 hm169 => ?_)
                    have hG169 : gf_okG m169 g := by unfold gf_okG; rw [hm169, gf_up_k (by omega), gf_up_k (by omega), gf_up_k (by omega)]; exact hG111
                    refine gf_aload_n C dd_Ou_fewestOthers_172 4 rfl ?_
                    refine gf_iload C dd_Ou_fewestOthers_173 1 rfl ?_
                    refine gf_iload C dd_Ou_fewestOthers_175 2 rfl ?_
                    refine gf_iload C dd_Ou_fewestOthers_177 0 rfl ?_
                    refine gf_iload C dd_Ou_fewestOthers_179 7 rfl ?_
                    refine gf_callVi (st := []) (As := [.int (gf_i s), .int (gf_i k), .int (gf_i f), .int (gf_i x4)]) C wk_Ou_48 gf_cl0 hg (ct_Gd_follow (gf_xl X) E g s k f x4 m169 hg (hG169) (by omega) (by omega) (by omega)) rfl ⟨rfl, rfl, rfl, rfl⟩ (Nat.le_of_ble_eq_true rfl) rfl dd_Ou_fewestOthers_181 (fun r181 m181 hR181 hp181 => ?_)
                    have hr181 := hp181.1
                    refine gf_pm hp181.2 ?_
                    refine gf_istore (lv' := [(5, .int (gf_i r181)), (7, .int (gf_i f)), (6, .int (gf_i k)), (0, .ref (gf_ad E 59)), (1, .ref (gf_ad E g)), (2, .ref (gf_ad E 41)), (3, .int (gf_i c)), (4, .int (gf_i x4))]) C dd_Ou_fewestOthers_184 (by decide) rfl ?_
                    obtain ⟨x186, hx186⟩ : ∃ y : Int, y = k + 1 := ⟨_, rfl⟩
                    refine gf_iinc (q := 2) (v := x186) (lv' := [(6, .int (gf_i x186)), (5, .int (gf_i r181)), (7, .int (gf_i f)), (0, .ref (gf_ad E 59)), (1, .ref (gf_ad E g)), (2, .ref (gf_ad E 41)), (3, .int (gf_i c)), (4, .int (gf_i x4))]) C dd_Ou_fewestOthers_186 rfl hx186 (by decide) rfl ?_
                    refine gf_goto 111 C dd_Ou_fewestOthers_189 (by decide) ?_
                    refine gf_lsub [1, 0, 3, 4, 5, 6, 7] rfl ?_
                    exact ih111_2 r181 x186 m169 (by
                              have hpk : f = pf_pkN (μ g 0) (μ g 1) (μ g 2) (μ 41 1) c (μ 42) k s := hpick
                              have e1 : (k + 1).toNat = k.toNat + 1 := by omega
                              have eK : ((k.toNat : Nat) : Int) = k := by omega
                              have hfo := hr181.1
                              rw [hm169, gf_up_k (by omega), gf_up_k (by omega), gf_up_k (by omega), ef111 g 0 (by omega) (by omega), ef111 g 1 (by omega) (by omega), ef111 g 2 (by omega) (by omega), hx4] at hfo
                              refine ⟨by omega, by omega, ?_, ?_, fun j z h0 h1 h2 h3 => by rw [hm169, gf_up_k (by decide)]; exact htc j z h0 h1 h2 h3, fun x y h h2 => by rw [hm169, gf_up_o h2]; exact ef111 x y h h2⟩
                              · rw [hx186, e1]
                                show _ = pf_fol _ _ _ (pf_run _ _ _ _ _ k.toNat).1 ((k.toNat : Nat) : Int) (pf_pkN _ _ _ _ _ _ ((k.toNat : Nat) : Int) (pf_run _ _ _ _ _ k.toNat).1) _
                                rw [← hrs, eK, ← hpk]
                                exact hfo
                              · rw [hx186, e1, hm169, gf_up_s, hrl]
                                show _ = (pf_run _ _ _ _ _ k.toNat).2 * 10 + pf_pkN _ _ _ _ _ _ ((k.toNat : Nat) : Int) (pf_run _ _ _ _ _ k.toNat).1
                                rw [← hrs, eK, ← hpk]) (by omega)
                  · skip
                    refine gf_aload_n C dd_Ou_fewestOthers_128 3 rfl ?_
                    refine gf_aload_n C dd_Ou_fewestOthers_129 4 rfl ?_
                    refine gf_aload_n C dd_Ou_fewestOthers_130 5 rfl ?_
                    refine gf_iload C dd_Ou_fewestOthers_131 2 rfl ?_
                    refine gf_iload C dd_Ou_fewestOthers_133 1 rfl ?_
                    refine gf_iload C dd_Ou_fewestOthers_135 0 rfl ?_
                    refine gf_callVl (st := []) (As := [.ref (gf_ad E g), .ref (gf_ad E 41), .int (gf_i k), .int (gf_i s), .int (gf_i f)]) C wk_Ou_27 gf_cl1 (show gf_is 81 59 0 1 2 by decide) (ct_Ou_othersWith (gf_xl X) E g m hg hg58 hG111 k s f (by rw [e41c]; omega) (by omega) (by omega) hvc) rfl ⟨rfl, rfl, rfl, rfl⟩ (Nat.le_of_ble_eq_true rfl) rfl dd_Ou_fewestOthers_137 (fun r137 m137 hR137 hp137 => ?_)
                    have hr137 := hp137.1
                    refine gf_pm hp137.2 ?_
                    have hoe : r137 = pf_oth (μ g 0) (μ g 1) (μ g 2) (μ 41 1) (μ 42) k s f (VV (μ 41 1 - 1 - k).toNat) := by
                      rw [hr137.1, ef111 g 0 (by omega) (by omega), ef111 g 1 (by omega) (by omega), ef111 g 2 (by omega) (by omega), e41c]
                      refine pf_oth_congr (ef111 42 k (by decide) (by omega)) (fun z h0 h1 => ?_)
                      rw [htc (k + 1) z (by omega) (by omega) h0 h1]
                      congr 1
                      omega
                    refine gf_aload_n C dd_Ou_fewestOthers_140 3 rfl ?_
                    refine gf_iload C dd_Ou_fewestOthers_141 2 rfl ?_
                    refine gf_iload C dd_Ou_fewestOthers_143 1 rfl ?_
                    refine gf_callVl (st := [.long (gf_l r137)]) (As := [.int (gf_i k), .int (gf_i s)]) C wk_Ou_44 gf_cl1 (show gf_is 81 59 0 1 2 by decide) (ct_Ou_valueOf (gf_xl X) E k s m (by omega) (by omega)) rfl ⟨rfl, rfl, rfl, rfl⟩ (Nat.le_of_ble_eq_true rfl) rfl dd_Ou_fewestOthers_145 (fun r145 m145 hR145 hp145 => ?_)
                    have hr145 := hp145.1
                    refine gf_pm hp145.2 ?_
                    have hve : r145 = VV (μ 41 1 - k).toNat s := by rw [hr145, htc k s (by omega) (by omega) (by omega) (by omega)]
                    have hvr := hVR (μ 41 1 - k).toNat s (by omega) (by omega)
                    refine gf_lcmp C dd_Ou_fewestOthers_148 (by omega) (by omega) (fun c148 hc148a hc148b hc148c => ?_)
                    refine gf_if_eq 158 C dd_Ou_fewestOthers_149 (by decide) (by omega) (fun h149 => ?_) (fun h149 => ?_)
                    · skip
                      have hpick : f = pf_pkN (μ g 0) (μ g 1) (μ g 2) (μ 41 1) c (μ 42) k s := by
                        rw [hf2]
                        first
                        | (rw [show (9 - f).toNat = 0 by omega]; rfl)
                        | (rw [show (9 - f).toNat = (9 - (f + 1)).toNat + 1 by omega]
                           show _ = if decide _ = true then _ else _
                           rw [if_pos (by rw [decide_eq_true_eq, ← hoe, ← hve]; omega)])
                      refine gf_aload_n C dd_Ou_fewestOthers_158 3 rfl ?_
                      refine gf_aload_n C dd_Ou_fewestOthers_159 3 rfl ?_
                      refine gf_getI (z := 1) C gf_cl1 fl_Ou_41 dd_Ou_fewestOthers_160 rfl rfl (show gf_is 81 59 0 1 2 by decide) (fun hv160 => ?_)
                      refine gf_bipush C dd_Ou_fewestOthers_163 (by decide +kernel) ?_
                      refine gf_imul C dd_Ou_fewestOthers_165 ?_
                      refine gf_iload C dd_Ou_fewestOthers_166 0 rfl ?_
                      refine gf_iadd C dd_Ou_fewestOthers_168 ?_
                      refine gf_putI (z := 1) C gf_cl1 fl_Ou_41 dd_Ou_fewestOthers_169 rfl rfl rfl (by decide +kernel) (show gf_is 81 59 0 1 2 by decide) (by omega) ?_
                      refine gf_nmM (fun m169 hm169 => ?_)
                      have hG169 : gf_okG m169 g := by unfold gf_okG; rw [hm169, gf_up_k (by omega), gf_up_k (by omega), gf_up_k (by omega)]; exact hG111
                      refine gf_aload_n C dd_Ou_fewestOthers_172 4 rfl ?_
                      refine gf_iload C dd_Ou_fewestOthers_173 1 rfl ?_
                      refine gf_iload C dd_Ou_fewestOthers_175 2 rfl ?_
                      refine gf_iload C dd_Ou_fewestOthers_177 0 rfl ?_
                      refine gf_iload C dd_Ou_fewestOthers_179 7 rfl ?_
                      refine gf_callVi (st := []) (As := [.int (gf_i s), .int (gf_i k), .int (gf_i f), .int (gf_i x4)]) C wk_Ou_48 gf_cl0 hg (ct_Gd_follow (gf_xl X) E g s k f x4 m169 hg (hG169) (by omega) (by omega) (by omega)) rfl ⟨rfl, rfl, rfl, rfl⟩ (Nat.le_of_ble_eq_true rfl) rfl dd_Ou_fewestOthers_181 (fun r181 m181 hR181 hp181 => ?_)
                      have hr181 := hp181.1
                      refine gf_pm hp181.2 ?_
                      refine gf_istore (lv' := [(5, .int (gf_i r181)), (7, .int (gf_i f)), (6, .int (gf_i k)), (0, .ref (gf_ad E 59)), (1, .ref (gf_ad E g)), (2, .ref (gf_ad E 41)), (3, .int (gf_i c)), (4, .int (gf_i x4))]) C dd_Ou_fewestOthers_184 (by decide) rfl ?_
                      obtain ⟨x186, hx186⟩ : ∃ y : Int, y = k + 1 := ⟨_, rfl⟩
                      refine gf_iinc (q := 2) (v := x186) (lv' := [(6, .int (gf_i x186)), (5, .int (gf_i r181)), (7, .int (gf_i f)), (0, .ref (gf_ad E 59)), (1, .ref (gf_ad E g)), (2, .ref (gf_ad E 41)), (3, .int (gf_i c)), (4, .int (gf_i x4))]) C dd_Ou_fewestOthers_186 rfl hx186 (by decide) rfl ?_
                      refine gf_goto 111 C dd_Ou_fewestOthers_189 (by decide) ?_
                      refine gf_lsub [1, 0, 3, 4, 5, 6, 7] rfl ?_
                      exact ih111_2 r181 x186 m169 (by
                                have hpk : f = pf_pkN (μ g 0) (μ g 1) (μ g 2) (μ 41 1) c (μ 42) k s := hpick
                                have e1 : (k + 1).toNat = k.toNat + 1 := by omega
                                have eK : ((k.toNat : Nat) : Int) = k := by omega
                                have hfo := hr181.1
                                rw [hm169, gf_up_k (by omega), gf_up_k (by omega), gf_up_k (by omega), ef111 g 0 (by omega) (by omega), ef111 g 1 (by omega) (by omega), ef111 g 2 (by omega) (by omega), hx4] at hfo
                                refine ⟨by omega, by omega, ?_, ?_, fun j z h0 h1 h2 h3 => by rw [hm169, gf_up_k (by decide)]; exact htc j z h0 h1 h2 h3, fun x y h h2 => by rw [hm169, gf_up_o h2]; exact ef111 x y h h2⟩
                                · rw [hx186, e1]
                                  show _ = pf_fol _ _ _ (pf_run _ _ _ _ _ k.toNat).1 ((k.toNat : Nat) : Int) (pf_pkN _ _ _ _ _ _ ((k.toNat : Nat) : Int) (pf_run _ _ _ _ _ k.toNat).1) _
                                  rw [← hrs, eK, ← hpk]
                                  exact hfo
                                · rw [hx186, e1, hm169, gf_up_s, hrl]
                                  show _ = (pf_run _ _ _ _ _ k.toNat).2 * 10 + pf_pkN _ _ _ _ _ _ ((k.toNat : Nat) : Int) (pf_run _ _ _ _ _ k.toNat).1
                                  rw [← hrs, eK, ← hpk]) (by omega)
                    · skip
                      obtain ⟨x152, hx152⟩ : ∃ y : Int, y = f + 1 := ⟨_, rfl⟩
                      refine gf_iinc (q := 0) (v := x152) (lv' := [(7, .int (gf_i x152)), (5, .int (gf_i s)), (6, .int (gf_i k)), (0, .ref (gf_ad E 59)), (1, .ref (gf_ad E g)), (2, .ref (gf_ad E 41)), (3, .int (gf_i c)), (4, .int (gf_i x4))]) C dd_Ou_fewestOthers_152 rfl hx152 (by decide) rfl ?_
                      refine gf_goto 121 C dd_Ou_fewestOthers_155 (by decide) ?_
                      refine gf_lsub [0, 1, 2, 3, 4, 5, 6, 7] rfl ?_
                      exact ih121_3 x152 (by
                                  refine ⟨by omega, by omega, ?_⟩
                                  rw [hf2, hx152, show (9 - f).toNat = (9 - (f + 1)).toNat + 1 by omega]
                                  show (if decide _ = true then _ else _) = _
                                  rw [if_neg (by rw [decide_eq_true_eq, ← hoe, ← hve]; omega)]) (by omega)
              refine gf_lsub [0, 1, 2, 3, 4, 5, 6, 7] rfl ?_
              exact L121_3 _ 0 (⟨by omega, by omega, by rw [hVV]; rfl⟩) (Nat.lt_succ_self _)
        refine gf_lsub [1, 0, 2, 3, 4, 5, 6] rfl ?_
        exact L111_2 _ 0 0 m102 (⟨by omega, by omega, rfl, by rw [hm102]; exact gf_up_s, fun j z h0 h1 h2 h3 => by rw [hm102, gf_up_k (by decide)]; exact htb0 j z h0 h1 h2 h3, fun x y h h2 => by rw [hm102, gf_up_o h2]; exact hk3 x y h⟩) (Nat.lt_succ_self _)
      · skip
        refine gf_iconst C dd_Ou_fewestOthers_28 ?_
        refine gf_istore (lv' := [(6, .int (gf_i 0)), (5, .int (gf_i k)), (0, .ref (gf_ad E 59)), (1, .ref (gf_ad E g)), (2, .ref (gf_ad E 41)), (3, .int (gf_i c)), (4, .int (gf_i x4))]) C dd_Ou_fewestOthers_29 (by decide) rfl ?_
        have L31_4 : ∀ (N : Nat) (s : Int) (m' : gf_M) , (0 ≤ s ∧ s ≤ 11 ∧ gf_tb m' (μ 41 1) VV (k + 1) ∧ gf_tr m' (μ 41 1) VV k s ∧ ∀ x y : Int, x ≠ 60 → m' x y = μ x y) → (11 - s).toNat < N → gf_G X E Q 10 gf_φ m' 31 [(6, .int (gf_i s)), (0, .ref (gf_ad E 59)), (1, .ref (gf_ad E g)), (2, .ref (gf_ad E 41)), (3, .int (gf_i c)), (4, .int (gf_i x4)), (5, .int (gf_i k))] [] := by
          intro N
          induction N with
          | zero => intro s m' hinv hN; exact absurd hN (Nat.not_lt_zero _)
          | succ N ih31_4 =>
            intro s m' hinv hN
            have hinv0 := hinv
            obtain ⟨hs0, hs1, htb, htr, ef31⟩ := hinv
            have e41b : m' 41 1 = μ 41 1 := ef31 41 1 (by decide)
            have hG31 : gf_okG m' g := by unfold gf_okG; rw [ef31 g 0 (by omega), ef31 g 1 (by omega), ef31 g 2 (by omega)]; exact hG
            have hvb : ∀ z : Int, 0 ≤ z → z ≤ 10 → 0 ≤ m' 60 ((k + 1) * 11 + z) ∧ m' 60 ((k + 1) * 11 + z) ≤ 100 := fun z h0 h1 => by rw [htb (k + 1) z (by omega) (by omega) h0 h1]; exact hVR _ z h0 h1
            refine gf_iload C dd_Ou_fewestOthers_31 0 rfl ?_
            refine gf_bipush C dd_Ou_fewestOthers_33 (by decide +kernel) ?_
            refine gf_icmp_ge 94 C dd_Ou_fewestOthers_35 (by decide) (by omega) (by omega) (fun h35 => ?_) (fun h35 => ?_)
            · skip
              obtain ⟨x94, hx94⟩ : ∃ y : Int, y = k + (-1) := ⟨_, rfl⟩
              refine gf_iinc (q := 6) (v := x94) (lv' := [(5, .int (gf_i x94)), (6, .int (gf_i s)), (0, .ref (gf_ad E 59)), (1, .ref (gf_ad E g)), (2, .ref (gf_ad E 41)), (3, .int (gf_i c)), (4, .int (gf_i x4))]) C dd_Ou_fewestOthers_94 rfl hx94 (by decide) rfl ?_
              refine gf_goto 23 C dd_Ou_fewestOthers_97 (by decide) ?_
              refine gf_lsub [0, 2, 3, 4, 5, 6] rfl ?_
              exact ih23_1 x94 m' (⟨by omega, by omega, by rw [hx94, show k + -1 + 1 = k by omega]; exact gf_tb_row htb (by rw [show (11 : Int) = s by omega]; exact htr), ef31⟩) (by omega)
            · skip
              refine gf_ldc2 100 C dd_Ou_fewestOthers_38 ck_Ou_25 (by decide +kernel) ?_
              refine gf_lstore (lv' := [(7, .long (gf_l 100)), (6, .int (gf_i s)), (0, .ref (gf_ad E 59)), (1, .ref (gf_ad E g)), (2, .ref (gf_ad E 41)), (3, .int (gf_i c)), (4, .int (gf_i x4)), (5, .int (gf_i k))]) C dd_Ou_fewestOthers_41 (by decide) rfl ?_
              refine gf_iconst C dd_Ou_fewestOthers_43 ?_
              refine gf_istore (lv' := [(9, .int (gf_i 0)), (7, .long (gf_l 100)), (6, .int (gf_i s)), (0, .ref (gf_ad E 59)), (1, .ref (gf_ad E g)), (2, .ref (gf_ad E 41)), (3, .int (gf_i c)), (4, .int (gf_i x4)), (5, .int (gf_i k))]) C dd_Ou_fewestOthers_44 (by decide) rfl ?_
              have L46_5 : ∀ (N : Nat) (v f : Int) , (0 ≤ f ∧ f ≤ 10 ∧ v = pf_minf (fun f => pf_oth (μ g 0) (μ g 1) (μ g 2) (μ 41 1) (μ 42) k s f (VV (μ 41 1 - 1 - k).toNat)) f.toNat) → (10 - f).toNat < N → gf_G X E Q 10 gf_φ m' 46 [(7, .long (gf_l v)), (9, .int (gf_i f)), (6, .int (gf_i s)), (0, .ref (gf_ad E 59)), (1, .ref (gf_ad E g)), (2, .ref (gf_ad E 41)), (3, .int (gf_i c)), (4, .int (gf_i x4)), (5, .int (gf_i k))] [] := by
                intro N
                induction N with
                | zero => intro v f hinv hN; exact absurd hN (Nat.not_lt_zero _)
                | succ N ih46_5 =>
                  intro v f hinv hN
                  have hinv0 := hinv
                  obtain ⟨hf0, hf1, hv7⟩ := hinv
                  have hvR : 0 ≤ v ∧ v ≤ 100 := by
                    rw [hv7]
                    refine pf_minf_R _ (fun f h0 h1 => ?_)
                    have hz := pf_fol_R (μ g 0) (μ g 1) (μ g 2) s k f (μ 41 1)
                    have := hVR (μ 41 1 - 1 - k).toNat _ hz.1 hz.2
                    show 0 ≤ pf_oth _ _ _ _ _ _ _ _ _
                    unfold pf_oth
                    split <;> omega
                  refine gf_iload C dd_Ou_fewestOthers_46 1 rfl ?_
                  refine gf_bipush C dd_Ou_fewestOthers_48 (by decide +kernel) ?_
                  refine gf_icmp_ge 78 C dd_Ou_fewestOthers_50 (by decide) (by omega) (by omega) (fun h50 => ?_) (fun h50 => ?_)
                  · skip
                    refine gf_aload_n C dd_Ou_fewestOthers_78 3 rfl ?_
                    refine gf_iload C dd_Ou_fewestOthers_79 8 rfl ?_
                    refine gf_iload C dd_Ou_fewestOthers_81 2 rfl ?_
                    refine gf_lload C dd_Ou_fewestOthers_83 0 rfl ?_
                    refine gf_callVv (st := []) (As := [.int (gf_i k), .int (gf_i s), .long (gf_l v)]) C wk_Ou_37 gf_cl1 (show gf_is 81 59 0 1 2 by decide) (ct_Ou_keepValue (gf_xl X) E k s v m' (by omega) (by omega) (by omega)) rfl ⟨rfl, rfl, rfl, rfl⟩ (Nat.le_of_ble_eq_true rfl) rfl dd_Ou_fewestOthers_85 (fun m85 hp85 => ?_)
                    obtain ⟨x88, hx88⟩ : ∃ y : Int, y = s + 1 := ⟨_, rfl⟩
                    refine gf_iinc (q := 2) (v := x88) (lv' := [(6, .int (gf_i x88)), (7, .long (gf_l v)), (9, .int (gf_i f)), (0, .ref (gf_ad E 59)), (1, .ref (gf_ad E g)), (2, .ref (gf_ad E 41)), (3, .int (gf_i c)), (4, .int (gf_i x4)), (5, .int (gf_i k))]) C dd_Ou_fewestOthers_88 rfl hx88 (by decide) rfl ?_
                    refine gf_goto 31 C dd_Ou_fewestOthers_91 (by decide) ?_
                    refine gf_lsub [0, 3, 4, 5, 6, 7, 8] rfl ?_
                    exact ih31_4 x88 m85 (by
                                have hkp := gf_tb_keep (by omega) hp85 htb htr (by rw [hVS k s (by omega) (by omega), hv7, show f.toNat = 10 by omega])
                                exact ⟨by omega, by omega, hkp.1, by rw [hx88]; exact hkp.2, fun x y h => by rw [hp85, gf_up_k h]; exact ef31 x y h⟩) (by omega)
                  · skip
                    refine gf_lload C dd_Ou_fewestOthers_53 0 rfl ?_
                    refine gf_aload_n C dd_Ou_fewestOthers_55 3 rfl ?_
                    refine gf_aload_n C dd_Ou_fewestOthers_56 4 rfl ?_
                    refine gf_aload_n C dd_Ou_fewestOthers_57 5 rfl ?_
                    refine gf_iload C dd_Ou_fewestOthers_58 8 rfl ?_
                    refine gf_iload C dd_Ou_fewestOthers_60 2 rfl ?_
                    refine gf_iload C dd_Ou_fewestOthers_62 1 rfl ?_
                    refine gf_callVl (st := [.long (gf_l v)]) (As := [.ref (gf_ad E g), .ref (gf_ad E 41), .int (gf_i k), .int (gf_i s), .int (gf_i f)]) C wk_Ou_27 gf_cl1 (show gf_is 81 59 0 1 2 by decide) (ct_Ou_othersWith (gf_xl X) E g m' hg hg58 hG31 k s f (by rw [e41b]; omega) (by omega) (by omega) hvb) rfl ⟨rfl, rfl, rfl, rfl⟩ (Nat.le_of_ble_eq_true rfl) rfl dd_Ou_fewestOthers_64 (fun r64 m64 hR64 hp64 => ?_)
                    have hr64 := hp64.1
                    refine gf_pm hp64.2 ?_
                    have hoe : r64 = pf_oth (μ g 0) (μ g 1) (μ g 2) (μ 41 1) (μ 42) k s f (VV (μ 41 1 - 1 - k).toNat) := by
                      rw [hr64.1, ef31 g 0 (by omega), ef31 g 1 (by omega), ef31 g 2 (by omega), e41b]
                      refine pf_oth_congr (ef31 42 k (by decide)) (fun z h0 h1 => ?_)
                      rw [htb (k + 1) z (by omega) (by omega) h0 h1]
                      congr 1
                      omega
                    refine gf_mminl C (gf_mem 604 (by decide +kernel) (by decide +kernel)) dd_Ou_fewestOthers_67 (by omega) ⟨by decide, Nat.le_of_ble_eq_true rfl, rfl, rfl⟩ ?_
                    refine gf_nml (fun x70 hx70 => ?_)
                    refine gf_lstore (lv' := [(7, .long (gf_l x70)), (9, .int (gf_i f)), (6, .int (gf_i s)), (0, .ref (gf_ad E 59)), (1, .ref (gf_ad E g)), (2, .ref (gf_ad E 41)), (3, .int (gf_i c)), (4, .int (gf_i x4)), (5, .int (gf_i k))]) C dd_Ou_fewestOthers_70 (by decide) rfl ?_
                    obtain ⟨x72, hx72⟩ : ∃ y : Int, y = f + 1 := ⟨_, rfl⟩
                    refine gf_iinc (q := 1) (v := x72) (lv' := [(9, .int (gf_i x72)), (7, .long (gf_l x70)), (6, .int (gf_i s)), (0, .ref (gf_ad E 59)), (1, .ref (gf_ad E g)), (2, .ref (gf_ad E 41)), (3, .int (gf_i c)), (4, .int (gf_i x4)), (5, .int (gf_i k))]) C dd_Ou_fewestOthers_72 rfl hx72 (by decide) rfl ?_
                    refine gf_goto 46 C dd_Ou_fewestOthers_75 (by decide) ?_
                    refine gf_lsub [1, 0, 2, 3, 4, 5, 6, 7, 8] rfl ?_
                    exact ih46_5 x70 x72 (by
                                  refine ⟨by omega, by omega, ?_⟩
                                  rw [hx70, hx72, hv7, show (f + 1).toNat = f.toNat + 1 by omega, hoe]
                                  show _ = gf_min _ (pf_oth _ _ _ _ _ _ _ ((f.toNat : Nat) : Int) _)
                                  rw [show ((f.toNat : Nat) : Int) = f by omega]) (by omega)
              refine gf_lsub [1, 0, 2, 3, 4, 5, 6, 7, 8] rfl ?_
              exact L46_5 _ 100 0 (⟨by omega, by omega, rfl⟩) (Nat.lt_succ_self _)
        refine gf_lsub [0, 2, 3, 4, 5, 6, 1] rfl ?_
        exact L31_4 _ 0 m (⟨by omega, by omega, hk2, fun z h0 h1 => by omega, hk3⟩) (Nat.lt_succ_self _)
  refine gf_lsub [0, 2, 3, 4, 5, 1] rfl ?_
  exact L23_1 _ x21 m14 (⟨by omega, by omega, fun j z h0 h1 h2 h3 => by rw [show j = x4 by omega, hp14a z h2 h3, show (μ 41 1 - x4).toNat = 0 by omega, hVV, hx4]; rfl, hp14b⟩) (Nat.lt_succ_self _)
end
section
theorem dd_Ou_waysWith_0 : decode cc_Ou_waysWith 0 = .ok (.aload_n 2, 1) := by decide +kernel
theorem dd_Ou_waysWith_1 : decode cc_Ou_waysWith 1 = .ok (.getfield 65, 3) := by decide +kernel
theorem dd_Ou_waysWith_4 : decode cc_Ou_waysWith 4 = .ok (.iload_n 3, 1) := by decide +kernel
theorem dd_Ou_waysWith_5 : decode cc_Ou_waysWith 5 = .ok (.iaload, 1) := by decide +kernel
theorem dd_Ou_waysWith_6 : decode cc_Ou_waysWith 6 = .ok (.iconst (-1), 1) := by decide +kernel
theorem dd_Ou_waysWith_7 : decode cc_Ou_waysWith 7 = .ok (.if_icmp .eq 16, 3) := by decide +kernel
theorem dd_Ou_waysWith_10 : decode cc_Ou_waysWith 10 = .ok (.aload_n 2, 1) := by decide +kernel
theorem dd_Ou_waysWith_11 : decode cc_Ou_waysWith 11 = .ok (.getfield 65, 3) := by decide +kernel
theorem dd_Ou_waysWith_14 : decode cc_Ou_waysWith 14 = .ok (.iload_n 3, 1) := by decide +kernel
theorem dd_Ou_waysWith_15 : decode cc_Ou_waysWith 15 = .ok (.iaload, 1) := by decide +kernel
theorem dd_Ou_waysWith_16 : decode cc_Ou_waysWith 16 = .ok (.iload 5, 2) := by decide +kernel
theorem dd_Ou_waysWith_18 : decode cc_Ou_waysWith 18 = .ok (.if_icmp .eq 5, 3) := by decide +kernel
theorem dd_Ou_waysWith_21 : decode cc_Ou_waysWith 21 = .ok (.lconst 0, 1) := by decide +kernel
theorem dd_Ou_waysWith_22 : decode cc_Ou_waysWith 22 = .ok (.lreturn, 1) := by decide +kernel
theorem dd_Ou_waysWith_23 : decode cc_Ou_waysWith 23 = .ok (.aload_n 0, 1) := by decide +kernel
theorem dd_Ou_waysWith_24 : decode cc_Ou_waysWith 24 = .ok (.iload_n 3, 1) := by decide +kernel
theorem dd_Ou_waysWith_25 : decode cc_Ou_waysWith 25 = .ok (.iconst 1, 1) := by decide +kernel
theorem dd_Ou_waysWith_26 : decode cc_Ou_waysWith 26 = .ok (.iadd, 1) := by decide +kernel
theorem dd_Ou_waysWith_27 : decode cc_Ou_waysWith 27 = .ok (.aload_n 1, 1) := by decide +kernel
theorem dd_Ou_waysWith_28 : decode cc_Ou_waysWith 28 = .ok (.iload 4, 2) := by decide +kernel
theorem dd_Ou_waysWith_30 : decode cc_Ou_waysWith 30 = .ok (.iload_n 3, 1) := by decide +kernel
theorem dd_Ou_waysWith_31 : decode cc_Ou_waysWith 31 = .ok (.iload 5, 2) := by decide +kernel
theorem dd_Ou_waysWith_33 : decode cc_Ou_waysWith 33 = .ok (.aload_n 2, 1) := by decide +kernel
theorem dd_Ou_waysWith_34 : decode cc_Ou_waysWith 34 = .ok (.getfield 58, 3) := by decide +kernel
theorem dd_Ou_waysWith_37 : decode cc_Ou_waysWith 37 = .ok (.invokevirtual 48, 3) := by decide +kernel
theorem dd_Ou_waysWith_40 : decode cc_Ou_waysWith 40 = .ok (.invokevirtual 44, 3) := by decide +kernel
theorem dd_Ou_waysWith_43 : decode cc_Ou_waysWith 43 = .ok (.lreturn, 1) := by decide +kernel
set_option maxRecDepth 100000 in
set_option maxHeartbeats 4000000 in
theorem ct_Ou_waysWith (l : Launch) (E : gf_E) (g w : Int) (μ : gf_M) (hg : gf_oGd g) (hg58 : 23 ≤ g ∧ g ≤ 58) (hG : gf_okG μ g) (hw : gf_oRow w 40) (hw12 : 0 ≤ w ∧ w ≤ 12) (k s f : Int) (hk : 0 ≤ k ∧ k < μ w 1 ∧ μ w 1 ≤ 8) (hs : 0 ≤ s ∧ s ≤ 10) (hf : 0 ≤ f ∧ f ≤ 9) (hv : ∀ z : Int, 0 ≤ z → z ≤ 10 → 0 ≤ μ 60 ((k + 1) * 11 + z) ∧ μ 60 ((k + 1) * 11 + z) ≤ 100000000) : gf_Ml l E yy_Ou_waysWith cc_Ou_waysWith 6 (gf_rm 2 45) 81 gf_ref μ [.ref (gf_ad E 59), .ref (gf_ad E g), .ref (gf_ad E w), .int (gf_i k), .int (gf_i s), .int (gf_i f)] (fun r μ' => (r = pf_way (μ g 0) (μ g 1) (μ g 2) (μ w 1) (μ (w + 1)) k s f (fun z => μ 60 ((k + 1) * 11 + z)) ∧ 0 ≤ r ∧ r ≤ 100000000) ∧ μ' = μ) := by
  refine gf_ml (by decide +kernel) (Nat.le_of_ble_eq_true rfl) (by decide) (fun X Q hlx C hQ => ?_)
  subst hlx
  replace C : gf_C X E cc_Ou_waysWith 6 "GuardFigures$Outlook" (gf_rm 2 45) := C
  show gf_G X E Q 6 gf_φ μ 0 [(0, .ref (gf_ad E 59)), (1, .ref (gf_ad E g)), (2, .ref (gf_ad E w)), (3, .int (gf_i k)), (4, .int (gf_i s)), (5, .int (gf_i f))] []
  refine gf_aload_n C dd_Ou_waysWith_0 2 rfl ?_
  refine gf_getA (r := (w + 1)) C gf_cl3 fl_Ou_65 dd_Ou_waysWith_1 rfl hw.1 hw.2.1 (hw.2.2).1 ?_
  refine gf_iload_n C dd_Ou_waysWith_4 3 rfl ?_
  refine gf_iald C dd_Ou_waysWith_5 hw.2.2 (by omega) (fun hv5 => ?_)
  refine gf_iconst C dd_Ou_waysWith_6 ?_
  refine gf_icmp_eq 23 C dd_Ou_waysWith_7 (by decide) (by omega) (by omega) (fun h7 => ?_) (fun h7 => ?_)
  · skip
    refine gf_aload_n C dd_Ou_waysWith_23 0 rfl ?_
    refine gf_iload_n C dd_Ou_waysWith_24 3 rfl ?_
    refine gf_iconst C dd_Ou_waysWith_25 ?_
    refine gf_iadd C dd_Ou_waysWith_26 ?_
    refine gf_aload_n C dd_Ou_waysWith_27 1 rfl ?_
    refine gf_iload C dd_Ou_waysWith_28 4 rfl ?_
    refine gf_iload_n C dd_Ou_waysWith_30 3 rfl ?_
    refine gf_iload C dd_Ou_waysWith_31 5 rfl ?_
    refine gf_aload_n C dd_Ou_waysWith_33 2 rfl ?_
    refine gf_getI (z := 1) C gf_cl3 fl_Ou_58 dd_Ou_waysWith_34 rfl rfl hw.1 (fun hv34 => ?_)
    refine gf_callVi (st := [.int (gf_i (k + 1)), .ref (gf_ad E 59)]) (As := [.int (gf_i s), .int (gf_i k), .int (gf_i f), .int (gf_i (μ w 1))]) C wk_Ou_48 gf_cl0 hg (ct_Gd_follow (gf_xl X) E g s k f (μ w 1) μ hg (hG) (by omega) (by omega) (by omega)) rfl ⟨rfl, rfl, rfl, rfl⟩ (Nat.le_of_ble_eq_true rfl) rfl dd_Ou_waysWith_37 (fun r37 m37 hR37 hp37 => ?_)
    have hr37 := hp37.1
    refine gf_pm hp37.2 ?_
    refine gf_callVl (st := []) (As := [.int (gf_i (k + 1)), .int (gf_i r37)]) C wk_Ou_44 gf_cl1 (show gf_is 81 59 0 1 2 by decide) (ct_Ou_valueOf (gf_xl X) E (k + 1) r37 μ (by omega) (by omega)) rfl ⟨rfl, rfl, rfl, rfl⟩ (Nat.le_of_ble_eq_true rfl) rfl dd_Ou_waysWith_40 (fun r40 m40 hR40 hp40 => ?_)
    have hr40 := hp40.1
    refine gf_pm hp40.2 ?_
    refine gf_lret C hQ dd_Ou_waysWith_43 (by omega) ?_
    have hvz := hv r37 (by omega) (by omega)
    refine ⟨⟨?_, by omega, by omega⟩, rfl⟩
    unfold pf_way
    rw [if_neg (by omega), hr40, hr37.1]
  · skip
    refine gf_aload_n C dd_Ou_waysWith_10 2 rfl ?_
    refine gf_getA (r := (w + 1)) C gf_cl3 fl_Ou_65 dd_Ou_waysWith_11 rfl hw.1 hw.2.1 (hw.2.2).1 ?_
    refine gf_iload_n C dd_Ou_waysWith_14 3 rfl ?_
    refine gf_iald C dd_Ou_waysWith_15 hw.2.2 (by omega) (fun hv15 => ?_)
    refine gf_iload C dd_Ou_waysWith_16 5 rfl ?_
    refine gf_icmp_eq 23 C dd_Ou_waysWith_18 (by decide) (by omega) (by omega) (fun h18 => ?_) (fun h18 => ?_)
    · skip
      refine gf_aload_n C dd_Ou_waysWith_23 0 rfl ?_
      refine gf_iload_n C dd_Ou_waysWith_24 3 rfl ?_
      refine gf_iconst C dd_Ou_waysWith_25 ?_
      refine gf_iadd C dd_Ou_waysWith_26 ?_
      refine gf_aload_n C dd_Ou_waysWith_27 1 rfl ?_
      refine gf_iload C dd_Ou_waysWith_28 4 rfl ?_
      refine gf_iload_n C dd_Ou_waysWith_30 3 rfl ?_
      refine gf_iload C dd_Ou_waysWith_31 5 rfl ?_
      refine gf_aload_n C dd_Ou_waysWith_33 2 rfl ?_
      refine gf_getI (z := 1) C gf_cl3 fl_Ou_58 dd_Ou_waysWith_34 rfl rfl hw.1 (fun hv34 => ?_)
      refine gf_callVi (st := [.int (gf_i (k + 1)), .ref (gf_ad E 59)]) (As := [.int (gf_i s), .int (gf_i k), .int (gf_i f), .int (gf_i (μ w 1))]) C wk_Ou_48 gf_cl0 hg (ct_Gd_follow (gf_xl X) E g s k f (μ w 1) μ hg (hG) (by omega) (by omega) (by omega)) rfl ⟨rfl, rfl, rfl, rfl⟩ (Nat.le_of_ble_eq_true rfl) rfl dd_Ou_waysWith_37 (fun r37 m37 hR37 hp37 => ?_)
      have hr37 := hp37.1
      refine gf_pm hp37.2 ?_
      refine gf_callVl (st := []) (As := [.int (gf_i (k + 1)), .int (gf_i r37)]) C wk_Ou_44 gf_cl1 (show gf_is 81 59 0 1 2 by decide) (ct_Ou_valueOf (gf_xl X) E (k + 1) r37 μ (by omega) (by omega)) rfl ⟨rfl, rfl, rfl, rfl⟩ (Nat.le_of_ble_eq_true rfl) rfl dd_Ou_waysWith_40 (fun r40 m40 hR40 hp40 => ?_)
      have hr40 := hp40.1
      refine gf_pm hp40.2 ?_
      refine gf_lret C hQ dd_Ou_waysWith_43 (by omega) ?_
      have hvz := hv r37 (by omega) (by omega)
      refine ⟨⟨?_, by omega, by omega⟩, rfl⟩
      unfold pf_way
      rw [if_neg (by omega), hr40, hr37.1]
    · skip
      refine gf_lconst 0 C dd_Ou_waysWith_21 (by decide +kernel) ?_
      refine gf_lret C hQ dd_Ou_waysWith_22 (by omega) ?_
      refine ⟨⟨?_, by omega, by omega⟩, rfl⟩
      unfold pf_way
      rw [if_pos (by omega)]

theorem dd_Ou_waysToFill_0 : decode cc_Ou_waysToFill 0 = .ok (.aload_n 2, 1) := by decide +kernel
theorem dd_Ou_waysToFill_1 : decode cc_Ou_waysToFill 1 = .ok (.getfield 58, 3) := by decide +kernel
theorem dd_Ou_waysToFill_4 : decode cc_Ou_waysToFill 4 = .ok (.istore 4, 2) := by decide +kernel
theorem dd_Ou_waysToFill_6 : decode cc_Ou_waysToFill 6 = .ok (.aload_n 0, 1) := by decide +kernel
theorem dd_Ou_waysToFill_7 : decode cc_Ou_waysToFill 7 = .ok (.aload_n 1, 1) := by decide +kernel
theorem dd_Ou_waysToFill_8 : decode cc_Ou_waysToFill 8 = .ok (.iload 4, 2) := by decide +kernel
theorem dd_Ou_waysToFill_10 : decode cc_Ou_waysToFill 10 = .ok (.iload_n 3, 1) := by decide +kernel
theorem dd_Ou_waysToFill_11 : decode cc_Ou_waysToFill 11 = .ok (.iconst 1, 1) := by decide +kernel
theorem dd_Ou_waysToFill_12 : decode cc_Ou_waysToFill 12 = .ok (.iconst 0, 1) := by decide +kernel
theorem dd_Ou_waysToFill_13 : decode cc_Ou_waysToFill 13 = .ok (.invokevirtual 21, 3) := by decide +kernel
theorem dd_Ou_waysToFill_16 : decode cc_Ou_waysToFill 16 = .ok (.iload 4, 2) := by decide +kernel
theorem dd_Ou_waysToFill_18 : decode cc_Ou_waysToFill 18 = .ok (.iconst 1, 1) := by decide +kernel
theorem dd_Ou_waysToFill_19 : decode cc_Ou_waysToFill 19 = .ok (.isub, 1) := by decide +kernel
theorem dd_Ou_waysToFill_20 : decode cc_Ou_waysToFill 20 = .ok (.istore 5, 2) := by decide +kernel
theorem dd_Ou_waysToFill_22 : decode cc_Ou_waysToFill 22 = .ok (.iload 5, 2) := by decide +kernel
theorem dd_Ou_waysToFill_24 : decode cc_Ou_waysToFill 24 = .ok (.ifCond .lt 71, 3) := by decide +kernel
theorem dd_Ou_waysToFill_27 : decode cc_Ou_waysToFill 27 = .ok (.iconst 0, 1) := by decide +kernel
theorem dd_Ou_waysToFill_28 : decode cc_Ou_waysToFill 28 = .ok (.istore 6, 2) := by decide +kernel
theorem dd_Ou_waysToFill_30 : decode cc_Ou_waysToFill 30 = .ok (.iload 6, 2) := by decide +kernel
theorem dd_Ou_waysToFill_32 : decode cc_Ou_waysToFill 32 = .ok (.bipush 11, 2) := by decide +kernel
theorem dd_Ou_waysToFill_34 : decode cc_Ou_waysToFill 34 = .ok (.if_icmp .ge 55, 3) := by decide +kernel
theorem dd_Ou_waysToFill_37 : decode cc_Ou_waysToFill 37 = .ok (.lconst 0, 1) := by decide +kernel
theorem dd_Ou_waysToFill_38 : decode cc_Ou_waysToFill 38 = .ok (.lstore 7, 2) := by decide +kernel
theorem dd_Ou_waysToFill_40 : decode cc_Ou_waysToFill 40 = .ok (.iconst 0, 1) := by decide +kernel
theorem dd_Ou_waysToFill_41 : decode cc_Ou_waysToFill 41 = .ok (.istore 9, 2) := by decide +kernel
theorem dd_Ou_waysToFill_43 : decode cc_Ou_waysToFill 43 = .ok (.iload 9, 2) := by decide +kernel
theorem dd_Ou_waysToFill_45 : decode cc_Ou_waysToFill 45 = .ok (.bipush 10, 2) := by decide +kernel
theorem dd_Ou_waysToFill_47 : decode cc_Ou_waysToFill 47 = .ok (.if_icmp .ge 26, 3) := by decide +kernel
theorem dd_Ou_waysToFill_50 : decode cc_Ou_waysToFill 50 = .ok (.lload 7, 2) := by decide +kernel
theorem dd_Ou_waysToFill_52 : decode cc_Ou_waysToFill 52 = .ok (.aload_n 0, 1) := by decide +kernel
theorem dd_Ou_waysToFill_53 : decode cc_Ou_waysToFill 53 = .ok (.aload_n 1, 1) := by decide +kernel
theorem dd_Ou_waysToFill_54 : decode cc_Ou_waysToFill 54 = .ok (.aload_n 2, 1) := by decide +kernel
theorem dd_Ou_waysToFill_55 : decode cc_Ou_waysToFill 55 = .ok (.iload 5, 2) := by decide +kernel
theorem dd_Ou_waysToFill_57 : decode cc_Ou_waysToFill 57 = .ok (.iload 6, 2) := by decide +kernel
theorem dd_Ou_waysToFill_59 : decode cc_Ou_waysToFill 59 = .ok (.iload 9, 2) := by decide +kernel
theorem dd_Ou_waysToFill_61 : decode cc_Ou_waysToFill 61 = .ok (.invokevirtual 61, 3) := by decide +kernel
theorem dd_Ou_waysToFill_64 : decode cc_Ou_waysToFill 64 = .ok (.ladd, 1) := by decide +kernel
theorem dd_Ou_waysToFill_65 : decode cc_Ou_waysToFill 65 = .ok (.lstore 7, 2) := by decide +kernel
theorem dd_Ou_waysToFill_67 : decode cc_Ou_waysToFill 67 = .ok (.iinc 9 1, 3) := by decide +kernel
theorem dd_Ou_waysToFill_70 : decode cc_Ou_waysToFill 70 = .ok (.goto (-27), 3) := by decide +kernel
theorem dd_Ou_waysToFill_73 : decode cc_Ou_waysToFill 73 = .ok (.aload_n 0, 1) := by decide +kernel
theorem dd_Ou_waysToFill_74 : decode cc_Ou_waysToFill 74 = .ok (.iload 5, 2) := by decide +kernel
theorem dd_Ou_waysToFill_76 : decode cc_Ou_waysToFill 76 = .ok (.iload 6, 2) := by decide +kernel
theorem dd_Ou_waysToFill_78 : decode cc_Ou_waysToFill 78 = .ok (.lload 7, 2) := by decide +kernel
theorem dd_Ou_waysToFill_80 : decode cc_Ou_waysToFill 80 = .ok (.invokevirtual 37, 3) := by decide +kernel
theorem dd_Ou_waysToFill_83 : decode cc_Ou_waysToFill 83 = .ok (.iinc 6 1, 3) := by decide +kernel
theorem dd_Ou_waysToFill_86 : decode cc_Ou_waysToFill 86 = .ok (.goto (-56), 3) := by decide +kernel
theorem dd_Ou_waysToFill_89 : decode cc_Ou_waysToFill 89 = .ok (.iinc 5 (-1), 3) := by decide +kernel
theorem dd_Ou_waysToFill_92 : decode cc_Ou_waysToFill 92 = .ok (.goto (-70), 3) := by decide +kernel
theorem dd_Ou_waysToFill_95 : decode cc_Ou_waysToFill 95 = .ok (.aload_n 0, 1) := by decide +kernel
theorem dd_Ou_waysToFill_96 : decode cc_Ou_waysToFill 96 = .ok (.iconst 0, 1) := by decide +kernel
theorem dd_Ou_waysToFill_97 : decode cc_Ou_waysToFill 97 = .ok (.putfield 41, 3) := by decide +kernel
theorem dd_Ou_waysToFill_100 : decode cc_Ou_waysToFill 100 = .ok (.iconst 0, 1) := by decide +kernel
theorem dd_Ou_waysToFill_101 : decode cc_Ou_waysToFill 101 = .ok (.istore 5, 2) := by decide +kernel
theorem dd_Ou_waysToFill_103 : decode cc_Ou_waysToFill 103 = .ok (.iconst 0, 1) := by decide +kernel
theorem dd_Ou_waysToFill_104 : decode cc_Ou_waysToFill 104 = .ok (.istore 6, 2) := by decide +kernel
theorem dd_Ou_waysToFill_106 : decode cc_Ou_waysToFill 106 = .ok (.iload 6, 2) := by decide +kernel
theorem dd_Ou_waysToFill_108 : decode cc_Ou_waysToFill 108 = .ok (.iload 4, 2) := by decide +kernel
theorem dd_Ou_waysToFill_110 : decode cc_Ou_waysToFill 110 = .ok (.if_icmp .ge 70, 3) := by decide +kernel
theorem dd_Ou_waysToFill_113 : decode cc_Ou_waysToFill 113 = .ok (.iconst 0, 1) := by decide +kernel
theorem dd_Ou_waysToFill_114 : decode cc_Ou_waysToFill 114 = .ok (.istore 7, 2) := by decide +kernel
theorem dd_Ou_waysToFill_116 : decode cc_Ou_waysToFill 116 = .ok (.iload 7, 2) := by decide +kernel
theorem dd_Ou_waysToFill_118 : decode cc_Ou_waysToFill 118 = .ok (.bipush 9, 2) := by decide +kernel
theorem dd_Ou_waysToFill_120 : decode cc_Ou_waysToFill 120 = .ok (.if_icmp .ge 26, 3) := by decide +kernel
theorem dd_Ou_waysToFill_123 : decode cc_Ou_waysToFill 123 = .ok (.aload_n 0, 1) := by decide +kernel
theorem dd_Ou_waysToFill_124 : decode cc_Ou_waysToFill 124 = .ok (.aload_n 1, 1) := by decide +kernel
theorem dd_Ou_waysToFill_125 : decode cc_Ou_waysToFill 125 = .ok (.aload_n 2, 1) := by decide +kernel
theorem dd_Ou_waysToFill_126 : decode cc_Ou_waysToFill 126 = .ok (.iload 6, 2) := by decide +kernel
theorem dd_Ou_waysToFill_128 : decode cc_Ou_waysToFill 128 = .ok (.iload 5, 2) := by decide +kernel
theorem dd_Ou_waysToFill_130 : decode cc_Ou_waysToFill 130 = .ok (.iload 7, 2) := by decide +kernel
theorem dd_Ou_waysToFill_132 : decode cc_Ou_waysToFill 132 = .ok (.invokevirtual 61, 3) := by decide +kernel
theorem dd_Ou_waysToFill_135 : decode cc_Ou_waysToFill 135 = .ok (.lconst 0, 1) := by decide +kernel
theorem dd_Ou_waysToFill_136 : decode cc_Ou_waysToFill 136 = .ok (.lcmp, 1) := by decide +kernel
theorem dd_Ou_waysToFill_137 : decode cc_Ou_waysToFill 137 = .ok (.ifCond .ne 9, 3) := by decide +kernel
theorem dd_Ou_waysToFill_140 : decode cc_Ou_waysToFill 140 = .ok (.iinc 7 1, 3) := by decide +kernel
theorem dd_Ou_waysToFill_143 : decode cc_Ou_waysToFill 143 = .ok (.goto (-27), 3) := by decide +kernel
theorem dd_Ou_waysToFill_146 : decode cc_Ou_waysToFill 146 = .ok (.aload_n 0, 1) := by decide +kernel
theorem dd_Ou_waysToFill_147 : decode cc_Ou_waysToFill 147 = .ok (.aload_n 0, 1) := by decide +kernel
theorem dd_Ou_waysToFill_148 : decode cc_Ou_waysToFill 148 = .ok (.getfield 41, 3) := by decide +kernel
theorem dd_Ou_waysToFill_151 : decode cc_Ou_waysToFill 151 = .ok (.bipush 10, 2) := by decide +kernel
theorem dd_Ou_waysToFill_153 : decode cc_Ou_waysToFill 153 = .ok (.imul, 1) := by decide +kernel
theorem dd_Ou_waysToFill_154 : decode cc_Ou_waysToFill 154 = .ok (.iload 7, 2) := by decide +kernel
theorem dd_Ou_waysToFill_156 : decode cc_Ou_waysToFill 156 = .ok (.iadd, 1) := by decide +kernel
theorem dd_Ou_waysToFill_157 : decode cc_Ou_waysToFill 157 = .ok (.putfield 41, 3) := by decide +kernel
theorem dd_Ou_waysToFill_160 : decode cc_Ou_waysToFill 160 = .ok (.aload_n 1, 1) := by decide +kernel
theorem dd_Ou_waysToFill_161 : decode cc_Ou_waysToFill 161 = .ok (.iload 5, 2) := by decide +kernel
theorem dd_Ou_waysToFill_163 : decode cc_Ou_waysToFill 163 = .ok (.iload 6, 2) := by decide +kernel
theorem dd_Ou_waysToFill_165 : decode cc_Ou_waysToFill 165 = .ok (.iload 7, 2) := by decide +kernel
theorem dd_Ou_waysToFill_167 : decode cc_Ou_waysToFill 167 = .ok (.iload 4, 2) := by decide +kernel
theorem dd_Ou_waysToFill_169 : decode cc_Ou_waysToFill 169 = .ok (.invokevirtual 48, 3) := by decide +kernel
theorem dd_Ou_waysToFill_172 : decode cc_Ou_waysToFill 172 = .ok (.istore 5, 2) := by decide +kernel
theorem dd_Ou_waysToFill_174 : decode cc_Ou_waysToFill 174 = .ok (.iinc 6 1, 3) := by decide +kernel
theorem dd_Ou_waysToFill_177 : decode cc_Ou_waysToFill 177 = .ok (.goto (-71), 3) := by decide +kernel
theorem dd_Ou_waysToFill_180 : decode cc_Ou_waysToFill 180 = .ok (.aload_n 0, 1) := by decide +kernel
theorem dd_Ou_waysToFill_181 : decode cc_Ou_waysToFill 181 = .ok (.iconst 0, 1) := by decide +kernel
theorem dd_Ou_waysToFill_182 : decode cc_Ou_waysToFill 182 = .ok (.iconst 0, 1) := by decide +kernel
theorem dd_Ou_waysToFill_183 : decode cc_Ou_waysToFill 183 = .ok (.invokevirtual 44, 3) := by decide +kernel
theorem dd_Ou_waysToFill_186 : decode cc_Ou_waysToFill 186 = .ok (.l2i, 1) := by decide +kernel
theorem dd_Ou_waysToFill_187 : decode cc_Ou_waysToFill 187 = .ok (.ireturn, 1) := by decide +kernel
set_option maxRecDepth 100000 in
set_option maxHeartbeats 4000000 in
theorem ct_Ou_waysToFill (l : Launch) (E : gf_E) (g w : Int) (μ : gf_M) (hg : gf_oGd g) (hg58 : 23 ≤ g ∧ g ≤ 58) (hG : gf_okG μ g) (hw : gf_oRow w 40) (hw12 : 0 ≤ w ∧ w ≤ 12) (c : Int) (hc : gf_R c) (hs : 0 ≤ μ w 1 ∧ μ w 1 ≤ 8) : gf_Mi l E yy_Ou_waysToFill cc_Ou_waysToFill 10 .int (gf_rm 3 72) 81 gf_ref μ [.ref (gf_ad E 59), .ref (gf_ad E g), .ref (gf_ad E w), .int (gf_i c)] (fun r μ' => (r = pf_VW (μ g 0) (μ g 1) (μ g 2) (μ w 1) c (μ (w + 1)) (μ w 1).toNat 0 ∧ 0 ≤ r ∧ r ≤ 100000000) ∧ (μ' 59 1 = (pf_run (μ g 0) (μ g 1) (μ g 2) (μ w 1) (pf_pkW (μ g 0) (μ g 1) (μ g 2) (μ w 1) c (μ (w + 1))) (μ w 1).toNat).2 ∧ ∀ x y : Int, x ≠ 60 → ¬ (x = 59 ∧ y = 1) → μ' x y = μ x y)) := by
  refine gf_mi (by decide +kernel) (Nat.le_of_ble_eq_true rfl) (by decide) (fun X Q hlx C hQ => ?_)
  subst hlx
  replace C : gf_C X E cc_Ou_waysToFill 10 "GuardFigures$Outlook" (gf_rm 3 72) := C
  show gf_G X E Q 10 gf_φ μ 0 [(0, .ref (gf_ad E 59)), (1, .ref (gf_ad E g)), (2, .ref (gf_ad E w)), (3, .int (gf_i c))] []
  obtain ⟨VV, hVV⟩ : ∃ z, z = pf_VW (μ g 0) (μ g 1) (μ g 2) (μ w 1) c (μ (w + 1)) := ⟨_, rfl⟩
  have hVR : ∀ (r : Nat) (s : Int), r ≤ 8 → 0 ≤ s → s ≤ 10 → 0 ≤ VV r s ∧ VV r s ≤ 100000000 := fun r s hr h0 h1 => by
    have h2 := pf_VW_R (μ g 0) (μ g 1) (μ g 2) (μ w 1) c (μ (w + 1)) r s ⟨h0, h1⟩
    have h3 := pf_10_8 hr
    rw [hVV]; omega
  have hVS : ∀ (k s : Int), 0 ≤ k → k < μ w 1 → VV (μ w 1 - k).toNat s = pf_sumf (fun f => pf_way (μ g 0) (μ g 1) (μ g 2) (μ w 1) (μ (w + 1)) k s f (VV (μ w 1 - 1 - k).toNat)) 10 := fun k s h0 h1 => by
    rw [show (μ w 1 - k).toNat = (μ w 1 - 1 - k).toNat + 1 by omega, hVV]
    show pf_sumf (fun f => pf_way _ _ _ _ _ (μ w 1 - 1 - ((μ w 1 - 1 - k).toNat : Nat)) s f _) 10 = _
    rw [show (μ w 1 - 1 - ((μ w 1 - 1 - k).toNat : Nat) : Int) = k by omega]
    rfl
  refine gf_aload_n C dd_Ou_waysToFill_0 2 rfl ?_
  refine gf_getI (z := 1) C gf_cl3 fl_Ou_58 dd_Ou_waysToFill_1 rfl rfl hw.1 (fun hv1 => ?_)
  refine gf_nm (fun x4 hx4 => ?_)
  refine gf_istore (lv' := [(4, .int (gf_i x4)), (0, .ref (gf_ad E 59)), (1, .ref (gf_ad E g)), (2, .ref (gf_ad E w)), (3, .int (gf_i c))]) C dd_Ou_waysToFill_4 (by decide) rfl ?_
  refine gf_aload_n C dd_Ou_waysToFill_6 1 rfl ?_
  refine gf_aload_n C dd_Ou_waysToFill_7 2 rfl ?_
  refine gf_iload C dd_Ou_waysToFill_8 0 rfl ?_
  refine gf_iload_n C dd_Ou_waysToFill_10 4 rfl ?_
  refine gf_iconst C dd_Ou_waysToFill_11 ?_
  refine gf_iconst C dd_Ou_waysToFill_12 ?_
  refine gf_callVv (st := []) (As := [.ref (gf_ad E g), .int (gf_i x4), .int (gf_i c), .int (gf_i 1), .int (gf_i 0)]) C wk_Ou_21 gf_cl1 (show gf_is 81 59 0 1 2 by decide) (ct_Ou_endWithCheck (gf_xl X) E g μ hg hg58.2 hG x4 c 1 0 (by omega) hc (by decide) (by decide)) rfl ⟨rfl, rfl, rfl, rfl⟩ (Nat.le_of_ble_eq_true rfl) rfl dd_Ou_waysToFill_13 (fun m13 hp13 => ?_)
  obtain ⟨hp14a, hp14b⟩ := hp13
  refine gf_iload C dd_Ou_waysToFill_16 0 rfl ?_
  refine gf_iconst C dd_Ou_waysToFill_18 ?_
  refine gf_isub C dd_Ou_waysToFill_19 ?_
  refine gf_nm (fun x20 hx20 => ?_)
  refine gf_istore (lv' := [(5, .int (gf_i x20)), (4, .int (gf_i x4)), (0, .ref (gf_ad E 59)), (1, .ref (gf_ad E g)), (2, .ref (gf_ad E w)), (3, .int (gf_i c))]) C dd_Ou_waysToFill_20 (by decide) rfl ?_
  have L22_1 : ∀ (N : Nat) (k : Int) (m : gf_M) , (-1 ≤ k ∧ k < μ w 1 ∧ gf_tb m (μ w 1) VV (k + 1) ∧ ∀ x y : Int, x ≠ 60 → m x y = μ x y) → (k + 1).toNat < N → gf_G X E Q 10 gf_φ m 22 [(5, .int (gf_i k)), (0, .ref (gf_ad E 59)), (1, .ref (gf_ad E g)), (2, .ref (gf_ad E w)), (3, .int (gf_i c)), (4, .int (gf_i x4))] [] := by
    intro N
    induction N with
    | zero => intro k m hinv hN; exact absurd hN (Nat.not_lt_zero _)
    | succ N ih22_1 =>
      intro k m hinv hN
      have hinv0 := hinv
      obtain ⟨hk0, hk1, hk2, hk3⟩ := hinv
      refine gf_iload C dd_Ou_waysToFill_22 0 rfl ?_
      refine gf_if_lt 95 C dd_Ou_waysToFill_24 (by decide) (by omega) (fun h24 => ?_) (fun h24 => ?_)
      · skip
        have hk1 : k = -1 := by omega
        have htb0 : gf_tb m (μ w 1) VV 0 := by have := hk2; rw [hk1] at this; exact this
        refine gf_aload_n C dd_Ou_waysToFill_95 1 rfl ?_
        refine gf_iconst C dd_Ou_waysToFill_96 ?_
        refine gf_putI (z := 1) C gf_cl1 fl_Ou_41 dd_Ou_waysToFill_97 rfl rfl rfl (by decide +kernel) (show gf_is 81 59 0 1 2 by decide) (by omega) ?_
        refine gf_nmM (fun m97 hm97 => ?_)
        refine gf_iconst C dd_Ou_waysToFill_100 ?_
        refine gf_istore (lv' := [(5, .int (gf_i 0)), (0, .ref (gf_ad E 59)), (1, .ref (gf_ad E g)), (2, .ref (gf_ad E w)), (3, .int (gf_i c)), (4, .int (gf_i x4))]) C dd_Ou_waysToFill_101 (by decide) rfl ?_
        refine gf_iconst C dd_Ou_waysToFill_103 ?_
        refine gf_istore (lv' := [(6, .int (gf_i 0)), (5, .int (gf_i 0)), (0, .ref (gf_ad E 59)), (1, .ref (gf_ad E g)), (2, .ref (gf_ad E w)), (3, .int (gf_i c)), (4, .int (gf_i x4))]) C dd_Ou_waysToFill_104 (by decide) rfl ?_
        have L106_2 : ∀ (N : Nat) (s k : Int) (m : gf_M) , (0 ≤ k ∧ k ≤ μ w 1 ∧ s = (pf_run (μ g 0) (μ g 1) (μ g 2) (μ w 1) (pf_pkW (μ g 0) (μ g 1) (μ g 2) (μ w 1) c (μ (w + 1))) k.toNat).1 ∧ m 59 1 = (pf_run (μ g 0) (μ g 1) (μ g 2) (μ w 1) (pf_pkW (μ g 0) (μ g 1) (μ g 2) (μ w 1) c (μ (w + 1))) k.toNat).2 ∧ gf_tb m (μ w 1) VV 0 ∧ ∀ x y : Int, x ≠ 60 → ¬ (x = 59 ∧ y = 1) → m x y = μ x y) → (8 - k).toNat < N → gf_G X E Q 10 gf_φ m 106 [(5, .int (gf_i s)), (6, .int (gf_i k)), (0, .ref (gf_ad E 59)), (1, .ref (gf_ad E g)), (2, .ref (gf_ad E w)), (3, .int (gf_i c)), (4, .int (gf_i x4))] [] := by
          intro N
          induction N with
          | zero => intro s k m hinv hN; exact absurd hN (Nat.not_lt_zero _)
          | succ N ih106_2 =>
            intro s k m hinv hN
            have hinv0 := hinv
            obtain ⟨hk0, hk1, hrs, hrl, htc, ef111⟩ := hinv
            have hsR := pf_run_R (μ g 0) (μ g 1) (μ g 2) (μ w 1) (pf_pkW (μ g 0) (μ g 1) (μ g 2) (μ w 1) c (μ (w + 1))) k.toNat
            rw [← hrs] at hsR
            have hlB := pf_run_B (K := μ g 0) (F := μ g 1) (S := μ g 2) (n := μ w 1) (pk := pf_pkW (μ g 0) (μ g 1) (μ g 2) (μ w 1) c (μ (w + 1))) (fun a b => pf_pkW_R _ _ _ _ _ _ a b) k.toNat
            rw [← hrl] at hlB
            have h108 := pf_10_8 (k := k.toNat) (by omega)
            have e41c : m w 1 = μ w 1 := ef111 w 1 (by omega) (by omega)
            have hG111 : gf_okG m g := by unfold gf_okG; rw [ef111 g 0 (by omega) (by omega), ef111 g 1 (by omega) (by omega), ef111 g 2 (by omega) (by omega)]; exact hG
            refine gf_iload C dd_Ou_waysToFill_106 1 rfl ?_
            refine gf_iload C dd_Ou_waysToFill_108 6 rfl ?_
            refine gf_icmp_ge 180 C dd_Ou_waysToFill_110 (by decide) (by omega) (by omega) (fun h110 => ?_) (fun h110 => ?_)
            · skip
              refine gf_aload_n C dd_Ou_waysToFill_180 2 rfl ?_
              refine gf_iconst C dd_Ou_waysToFill_181 ?_
              refine gf_iconst C dd_Ou_waysToFill_182 ?_
              refine gf_callVl (st := []) (As := [.int (gf_i 0), .int (gf_i 0)]) C wk_Ou_44 gf_cl1 (show gf_is 81 59 0 1 2 by decide) (ct_Ou_valueOf (gf_xl X) E 0 0 m (by omega) (by omega)) rfl ⟨rfl, rfl, rfl, rfl⟩ (Nat.le_of_ble_eq_true rfl) rfl dd_Ou_waysToFill_183 (fun r183 m183 hR183 hp183 => ?_)
              have hr183 := hp183.1
              refine gf_pm hp183.2 ?_
              have hv00 := hVR (μ w 1).toNat 0 (by omega) (by omega) (by omega)
              have hr195b : r183 = VV (μ w 1).toNat 0 := by rw [hr183, htc 0 0 (by omega) (by omega) (by omega) (by omega), show μ w 1 - 0 = μ w 1 by omega]
              refine gf_gl2i C dd_Ou_waysToFill_186 ?_
              refine gf_iret C hQ dd_Ou_waysToFill_187 (by omega) ?_
              have hkn : k = μ w 1 := by omega
              refine ⟨⟨by rw [hr195b, hVV], by omega, by omega⟩, ?_, ef111⟩
              rw [hrl, hkn]
            · skip
              refine gf_iconst C dd_Ou_waysToFill_113 ?_
              refine gf_istore (lv' := [(7, .int (gf_i 0)), (5, .int (gf_i s)), (6, .int (gf_i k)), (0, .ref (gf_ad E 59)), (1, .ref (gf_ad E g)), (2, .ref (gf_ad E w)), (3, .int (gf_i c)), (4, .int (gf_i x4))]) C dd_Ou_waysToFill_114 (by decide) rfl ?_
              have L116_3 : ∀ (N : Nat) (f : Int) , (0 ≤ f ∧ f ≤ 9 ∧ pf_pkW (μ g 0) (μ g 1) (μ g 2) (μ w 1) c (μ (w + 1)) k s = pf_pick (fun f => decide (pf_way (μ g 0) (μ g 1) (μ g 2) (μ w 1) (μ (w + 1)) k s f (VV (μ w 1 - 1 - k).toNat) ≠ 0)) (9 - f).toNat f) → (9 - f).toNat < N → gf_G X E Q 10 gf_φ m 116 [(7, .int (gf_i f)), (5, .int (gf_i s)), (6, .int (gf_i k)), (0, .ref (gf_ad E 59)), (1, .ref (gf_ad E g)), (2, .ref (gf_ad E w)), (3, .int (gf_i c)), (4, .int (gf_i x4))] [] := by
                intro N
                induction N with
                | zero => intro f hinv hN; exact absurd hN (Nat.not_lt_zero _)
                | succ N ih116_3 =>
                  intro f hinv hN
                  have hinv0 := hinv
                  obtain ⟨hf0, hf1, hf2⟩ := hinv
                  have hvc : ∀ z : Int, 0 ≤ z → z ≤ 10 → 0 ≤ m 60 ((k + 1) * 11 + z) ∧ m 60 ((k + 1) * 11 + z) ≤ 100000000 := fun z h0 h1 => by rw [htc (k + 1) z (by omega) (by omega) h0 h1]; exact hVR _ z (by omega) h0 h1
                  refine gf_iload C dd_Ou_waysToFill_116 0 rfl ?_
                  refine gf_bipush C dd_Ou_waysToFill_118 (by decide +kernel) ?_
                  refine gf_icmp_ge 146 C dd_Ou_waysToFill_120 (by decide) (by omega) (by omega) (fun h120 => ?_) (fun h120 => ?_)
                  · skip
                    have hpick : f = pf_pkW (μ g 0) (μ g 1) (μ g 2) (μ w 1) c (μ (w + 1)) k s := by
                      rw [hf2]
                      first
                      | (rw [show (9 - f).toNat = 0 by omega]; rfl)
                      | (rw [show (9 - f).toNat = (9 - (f + 1)).toNat + 1 by omega]
                         show _ = if decide _ = true then _ else _
                         rw [if_pos (by rw [decide_eq_true_eq, ← hoe]; omega)])
                    refine gf_aload_n C dd_Ou_waysToFill_146 3 rfl ?_
                    refine gf_aload_n C dd_Ou_waysToFill_147 3 rfl ?_
                    refine gf_getI (z := 1) C gf_cl1 fl_Ou_41 dd_Ou_waysToFill_148 rfl rfl (show gf_is 81 59 0 1 2 by decide) (fun hv148 => ?_)
                    refine gf_bipush C dd_Ou_waysToFill_151 (by decide +kernel) ?_
                    refine gf_imul C dd_Ou_waysToFill_153 ?_
                    refine gf_iload C dd_Ou_waysToFill_154 0 rfl ?_
                    refine gf_iadd C dd_Ou_waysToFill_156 ?_
                    refine gf_putI (z := 1) C gf_cl1 fl_Ou_41 dd_Ou_waysToFill_157 rfl rfl rfl (by decide +kernel) (show gf_is 81 59 0 1 2 by decide) (by omega) ?_
                    refine gf_nmM (fun m157 hm157 => ?_)
                    have hG169 : gf_okG m157 g := by unfold gf_okG; rw [hm157, gf_up_k (by omega), gf_up_k (by omega), gf_up_k (by omega)]; exact hG111
                    refine gf_aload_n C dd_Ou_waysToFill_160 4 rfl ?_
                    refine gf_iload C dd_Ou_waysToFill_161 1 rfl ?_
                    refine gf_iload C dd_Ou_waysToFill_163 2 rfl ?_
                    refine gf_iload C dd_Ou_waysToFill_165 0 rfl ?_
                    refine gf_iload C dd_Ou_waysToFill_167 7 rfl ?_
                    refine gf_callVi (st := []) (As := [.int (gf_i s), .int (gf_i k), .int (gf_i f), .int (gf_i x4)]) C wk_Ou_48 gf_cl0 hg (ct_Gd_follow (gf_xl X) E g s k f x4 m157 hg (hG169) (by omega) (by omega) (by omega)) rfl ⟨rfl, rfl, rfl, rfl⟩ (Nat.le_of_ble_eq_true rfl) rfl dd_Ou_waysToFill_169 (fun r169 m169 hR169 hp169 => ?_)
                    have hr169 := hp169.1
                    refine gf_pm hp169.2 ?_
                    refine gf_istore (lv' := [(5, .int (gf_i r169)), (7, .int (gf_i f)), (6, .int (gf_i k)), (0, .ref (gf_ad E 59)), (1, .ref (gf_ad E g)), (2, .ref (gf_ad E w)), (3, .int (gf_i c)), (4, .int (gf_i x4))]) C dd_Ou_waysToFill_172 (by decide) rfl ?_
                    obtain ⟨x174, hx174⟩ : ∃ y : Int, y = k + 1 := ⟨_, rfl⟩
                    refine gf_iinc (q := 2) (v := x174) (lv' := [(6, .int (gf_i x174)), (5, .int (gf_i r169)), (7, .int (gf_i f)), (0, .ref (gf_ad E 59)), (1, .ref (gf_ad E g)), (2, .ref (gf_ad E w)), (3, .int (gf_i c)), (4, .int (gf_i x4))]) C dd_Ou_waysToFill_174 rfl hx174 (by decide) rfl ?_
                    refine gf_goto 106 C dd_Ou_waysToFill_177 (by decide) ?_
                    refine gf_lsub [1, 0, 3, 4, 5, 6, 7] rfl ?_
                    exact ih106_2 r169 x174 m157 (by
                              have hpk : f = pf_pkW (μ g 0) (μ g 1) (μ g 2) (μ w 1) c (μ (w + 1)) k s := hpick
                              have e1 : (k + 1).toNat = k.toNat + 1 := by omega
                              have eK : ((k.toNat : Nat) : Int) = k := by omega
                              have hfo := hr169.1
                              rw [hm157, gf_up_k (by omega), gf_up_k (by omega), gf_up_k (by omega), ef111 g 0 (by omega) (by omega), ef111 g 1 (by omega) (by omega), ef111 g 2 (by omega) (by omega), hx4] at hfo
                              refine ⟨by omega, by omega, ?_, ?_, fun j z h0 h1 h2 h3 => by rw [hm157, gf_up_k (by decide)]; exact htc j z h0 h1 h2 h3, fun x y h h2 => by rw [hm157, gf_up_o h2]; exact ef111 x y h h2⟩
                              · rw [hx174, e1]
                                show _ = pf_fol _ _ _ (pf_run _ _ _ _ _ k.toNat).1 ((k.toNat : Nat) : Int) (pf_pkW _ _ _ _ _ _ ((k.toNat : Nat) : Int) (pf_run _ _ _ _ _ k.toNat).1) _
                                rw [← hrs, eK, ← hpk]
                                exact hfo
                              · rw [hx174, e1, hm157, gf_up_s, hrl]
                                show _ = (pf_run _ _ _ _ _ k.toNat).2 * 10 + pf_pkW _ _ _ _ _ _ ((k.toNat : Nat) : Int) (pf_run _ _ _ _ _ k.toNat).1
                                rw [← hrs, eK, ← hpk]) (by omega)
                  · skip
                    refine gf_aload_n C dd_Ou_waysToFill_123 3 rfl ?_
                    refine gf_aload_n C dd_Ou_waysToFill_124 4 rfl ?_
                    refine gf_aload_n C dd_Ou_waysToFill_125 5 rfl ?_
                    refine gf_iload C dd_Ou_waysToFill_126 2 rfl ?_
                    refine gf_iload C dd_Ou_waysToFill_128 1 rfl ?_
                    refine gf_iload C dd_Ou_waysToFill_130 0 rfl ?_
                    refine gf_callVl (st := []) (As := [.ref (gf_ad E g), .ref (gf_ad E w), .int (gf_i k), .int (gf_i s), .int (gf_i f)]) C wk_Ou_61 gf_cl1 (show gf_is 81 59 0 1 2 by decide) (ct_Ou_waysWith (gf_xl X) E g w m hg hg58 hG111 hw hw12 k s f (by rw [e41c]; omega) (by omega) (by omega) hvc) rfl ⟨rfl, rfl, rfl, rfl⟩ (Nat.le_of_ble_eq_true rfl) rfl dd_Ou_waysToFill_132 (fun r132 m132 hR132 hp132 => ?_)
                    have hr132 := hp132.1
                    refine gf_pm hp132.2 ?_
                    have hoe : r132 = pf_way (μ g 0) (μ g 1) (μ g 2) (μ w 1) (μ (w + 1)) k s f (VV (μ w 1 - 1 - k).toNat) := by
                      rw [hr132.1, ef111 g 0 (by omega) (by omega), ef111 g 1 (by omega) (by omega), ef111 g 2 (by omega) (by omega), e41c]
                      refine pf_way_congr (ef111 (w + 1) k (by omega) (by omega)) (fun z h0 h1 => ?_)
                      rw [htc (k + 1) z (by omega) (by omega) h0 h1]
                      congr 1
                      omega
                    refine gf_lconst 0 C dd_Ou_waysToFill_135 (by decide +kernel) ?_
                    refine gf_lcmp C dd_Ou_waysToFill_136 (by omega) (by omega) (fun c136 hc136a hc136b hc136c => ?_)
                    refine gf_if_ne 146 C dd_Ou_waysToFill_137 (by decide) (by omega) (fun h137 => ?_) (fun h137 => ?_)
                    · skip
                      have hpick : f = pf_pkW (μ g 0) (μ g 1) (μ g 2) (μ w 1) c (μ (w + 1)) k s := by
                        rw [hf2]
                        first
                        | (rw [show (9 - f).toNat = 0 by omega]; rfl)
                        | (rw [show (9 - f).toNat = (9 - (f + 1)).toNat + 1 by omega]
                           show _ = if decide _ = true then _ else _
                           rw [if_pos (by rw [decide_eq_true_eq, ← hoe]; omega)])
                      refine gf_aload_n C dd_Ou_waysToFill_146 3 rfl ?_
                      refine gf_aload_n C dd_Ou_waysToFill_147 3 rfl ?_
                      refine gf_getI (z := 1) C gf_cl1 fl_Ou_41 dd_Ou_waysToFill_148 rfl rfl (show gf_is 81 59 0 1 2 by decide) (fun hv148 => ?_)
                      refine gf_bipush C dd_Ou_waysToFill_151 (by decide +kernel) ?_
                      refine gf_imul C dd_Ou_waysToFill_153 ?_
                      refine gf_iload C dd_Ou_waysToFill_154 0 rfl ?_
                      refine gf_iadd C dd_Ou_waysToFill_156 ?_
                      refine gf_putI (z := 1) C gf_cl1 fl_Ou_41 dd_Ou_waysToFill_157 rfl rfl rfl (by decide +kernel) (show gf_is 81 59 0 1 2 by decide) (by omega) ?_
                      refine gf_nmM (fun m157 hm157 => ?_)
                      have hG169 : gf_okG m157 g := by unfold gf_okG; rw [hm157, gf_up_k (by omega), gf_up_k (by omega), gf_up_k (by omega)]; exact hG111
                      refine gf_aload_n C dd_Ou_waysToFill_160 4 rfl ?_
                      refine gf_iload C dd_Ou_waysToFill_161 1 rfl ?_
                      refine gf_iload C dd_Ou_waysToFill_163 2 rfl ?_
                      refine gf_iload C dd_Ou_waysToFill_165 0 rfl ?_
                      refine gf_iload C dd_Ou_waysToFill_167 7 rfl ?_
                      refine gf_callVi (st := []) (As := [.int (gf_i s), .int (gf_i k), .int (gf_i f), .int (gf_i x4)]) C wk_Ou_48 gf_cl0 hg (ct_Gd_follow (gf_xl X) E g s k f x4 m157 hg (hG169) (by omega) (by omega) (by omega)) rfl ⟨rfl, rfl, rfl, rfl⟩ (Nat.le_of_ble_eq_true rfl) rfl dd_Ou_waysToFill_169 (fun r169 m169 hR169 hp169 => ?_)
                      have hr169 := hp169.1
                      refine gf_pm hp169.2 ?_
                      refine gf_istore (lv' := [(5, .int (gf_i r169)), (7, .int (gf_i f)), (6, .int (gf_i k)), (0, .ref (gf_ad E 59)), (1, .ref (gf_ad E g)), (2, .ref (gf_ad E w)), (3, .int (gf_i c)), (4, .int (gf_i x4))]) C dd_Ou_waysToFill_172 (by decide) rfl ?_
                      obtain ⟨x174, hx174⟩ : ∃ y : Int, y = k + 1 := ⟨_, rfl⟩
                      refine gf_iinc (q := 2) (v := x174) (lv' := [(6, .int (gf_i x174)), (5, .int (gf_i r169)), (7, .int (gf_i f)), (0, .ref (gf_ad E 59)), (1, .ref (gf_ad E g)), (2, .ref (gf_ad E w)), (3, .int (gf_i c)), (4, .int (gf_i x4))]) C dd_Ou_waysToFill_174 rfl hx174 (by decide) rfl ?_
                      refine gf_goto 106 C dd_Ou_waysToFill_177 (by decide) ?_
                      refine gf_lsub [1, 0, 3, 4, 5, 6, 7] rfl ?_
                      exact ih106_2 r169 x174 m157 (by
                                have hpk : f = pf_pkW (μ g 0) (μ g 1) (μ g 2) (μ w 1) c (μ (w + 1)) k s := hpick
                                have e1 : (k + 1).toNat = k.toNat + 1 := by omega
                                have eK : ((k.toNat : Nat) : Int) = k := by omega
                                have hfo := hr169.1
                                rw [hm157, gf_up_k (by omega), gf_up_k (by omega), gf_up_k (by omega), ef111 g 0 (by omega) (by omega), ef111 g 1 (by omega) (by omega), ef111 g 2 (by omega) (by omega), hx4] at hfo
                                refine ⟨by omega, by omega, ?_, ?_, fun j z h0 h1 h2 h3 => by rw [hm157, gf_up_k (by decide)]; exact htc j z h0 h1 h2 h3, fun x y h h2 => by rw [hm157, gf_up_o h2]; exact ef111 x y h h2⟩
                                · rw [hx174, e1]
                                  show _ = pf_fol _ _ _ (pf_run _ _ _ _ _ k.toNat).1 ((k.toNat : Nat) : Int) (pf_pkW _ _ _ _ _ _ ((k.toNat : Nat) : Int) (pf_run _ _ _ _ _ k.toNat).1) _
                                  rw [← hrs, eK, ← hpk]
                                  exact hfo
                                · rw [hx174, e1, hm157, gf_up_s, hrl]
                                  show _ = (pf_run _ _ _ _ _ k.toNat).2 * 10 + pf_pkW _ _ _ _ _ _ ((k.toNat : Nat) : Int) (pf_run _ _ _ _ _ k.toNat).1
                                  rw [← hrs, eK, ← hpk]) (by omega)
                    · skip
                      obtain ⟨x140, hx140⟩ : ∃ y : Int, y = f + 1 := ⟨_, rfl⟩
                      refine gf_iinc (q := 0) (v := x140) (lv' := [(7, .int (gf_i x140)), (5, .int (gf_i s)), (6, .int (gf_i k)), (0, .ref (gf_ad E 59)), (1, .ref (gf_ad E g)), (2, .ref (gf_ad E w)), (3, .int (gf_i c)), (4, .int (gf_i x4))]) C dd_Ou_waysToFill_140 rfl hx140 (by decide) rfl ?_
                      refine gf_goto 116 C dd_Ou_waysToFill_143 (by decide) ?_
                      refine gf_lsub [0, 1, 2, 3, 4, 5, 6, 7] rfl ?_
                      exact ih116_3 x140 (by
                                  refine ⟨by omega, by omega, ?_⟩
                                  rw [hf2, hx140, show (9 - f).toNat = (9 - (f + 1)).toNat + 1 by omega]
                                  show (if decide _ = true then _ else _) = _
                                  rw [if_neg (by rw [decide_eq_true_eq, ← hoe]; omega)]) (by omega)
              refine gf_lsub [0, 1, 2, 3, 4, 5, 6, 7] rfl ?_
              exact L116_3 _ 0 (⟨by omega, by omega, by rw [hVV]; rfl⟩) (Nat.lt_succ_self _)
        refine gf_lsub [1, 0, 2, 3, 4, 5, 6] rfl ?_
        exact L106_2 _ 0 0 m97 (⟨by omega, by omega, rfl, by rw [hm97]; exact gf_up_s, fun j z h0 h1 h2 h3 => by rw [hm97, gf_up_k (by decide)]; exact htb0 j z h0 h1 h2 h3, fun x y h h2 => by rw [hm97, gf_up_o h2]; exact hk3 x y h⟩) (Nat.lt_succ_self _)
      · skip
        refine gf_iconst C dd_Ou_waysToFill_27 ?_
        refine gf_istore (lv' := [(6, .int (gf_i 0)), (5, .int (gf_i k)), (0, .ref (gf_ad E 59)), (1, .ref (gf_ad E g)), (2, .ref (gf_ad E w)), (3, .int (gf_i c)), (4, .int (gf_i x4))]) C dd_Ou_waysToFill_28 (by decide) rfl ?_
        have L30_4 : ∀ (N : Nat) (s : Int) (m' : gf_M) , (0 ≤ s ∧ s ≤ 11 ∧ gf_tb m' (μ w 1) VV (k + 1) ∧ gf_tr m' (μ w 1) VV k s ∧ ∀ x y : Int, x ≠ 60 → m' x y = μ x y) → (11 - s).toNat < N → gf_G X E Q 10 gf_φ m' 30 [(6, .int (gf_i s)), (0, .ref (gf_ad E 59)), (1, .ref (gf_ad E g)), (2, .ref (gf_ad E w)), (3, .int (gf_i c)), (4, .int (gf_i x4)), (5, .int (gf_i k))] [] := by
          intro N
          induction N with
          | zero => intro s m' hinv hN; exact absurd hN (Nat.not_lt_zero _)
          | succ N ih30_4 =>
            intro s m' hinv hN
            have hinv0 := hinv
            obtain ⟨hs0, hs1, htb, htr, ef31⟩ := hinv
            have e41b : m' w 1 = μ w 1 := ef31 w 1 (by omega)
            have hG31 : gf_okG m' g := by unfold gf_okG; rw [ef31 g 0 (by omega), ef31 g 1 (by omega), ef31 g 2 (by omega)]; exact hG
            have hvb : ∀ z : Int, 0 ≤ z → z ≤ 10 → 0 ≤ m' 60 ((k + 1) * 11 + z) ∧ m' 60 ((k + 1) * 11 + z) ≤ 100000000 := fun z h0 h1 => by rw [htb (k + 1) z (by omega) (by omega) h0 h1]; exact hVR _ z (by omega) h0 h1
            refine gf_iload C dd_Ou_waysToFill_30 0 rfl ?_
            refine gf_bipush C dd_Ou_waysToFill_32 (by decide +kernel) ?_
            refine gf_icmp_ge 89 C dd_Ou_waysToFill_34 (by decide) (by omega) (by omega) (fun h34 => ?_) (fun h34 => ?_)
            · skip
              obtain ⟨x89, hx89⟩ : ∃ y : Int, y = k + (-1) := ⟨_, rfl⟩
              refine gf_iinc (q := 6) (v := x89) (lv' := [(5, .int (gf_i x89)), (6, .int (gf_i s)), (0, .ref (gf_ad E 59)), (1, .ref (gf_ad E g)), (2, .ref (gf_ad E w)), (3, .int (gf_i c)), (4, .int (gf_i x4))]) C dd_Ou_waysToFill_89 rfl hx89 (by decide) rfl ?_
              refine gf_goto 22 C dd_Ou_waysToFill_92 (by decide) ?_
              refine gf_lsub [0, 2, 3, 4, 5, 6] rfl ?_
              exact ih22_1 x89 m' (⟨by omega, by omega, by rw [hx89, show k + -1 + 1 = k by omega]; exact gf_tb_row htb (by rw [show (11 : Int) = s by omega]; exact htr), ef31⟩) (by omega)
            · skip
              refine gf_lconst 0 C dd_Ou_waysToFill_37 (by decide +kernel) ?_
              refine gf_lstore (lv' := [(7, .long (gf_l 0)), (6, .int (gf_i s)), (0, .ref (gf_ad E 59)), (1, .ref (gf_ad E g)), (2, .ref (gf_ad E w)), (3, .int (gf_i c)), (4, .int (gf_i x4)), (5, .int (gf_i k))]) C dd_Ou_waysToFill_38 (by decide) rfl ?_
              refine gf_iconst C dd_Ou_waysToFill_40 ?_
              refine gf_istore (lv' := [(9, .int (gf_i 0)), (7, .long (gf_l 0)), (6, .int (gf_i s)), (0, .ref (gf_ad E 59)), (1, .ref (gf_ad E g)), (2, .ref (gf_ad E w)), (3, .int (gf_i c)), (4, .int (gf_i x4)), (5, .int (gf_i k))]) C dd_Ou_waysToFill_41 (by decide) rfl ?_
              have L43_5 : ∀ (N : Nat) (v f : Int) , (0 ≤ f ∧ f ≤ 10 ∧ v = pf_sumf (fun f => pf_way (μ g 0) (μ g 1) (μ g 2) (μ w 1) (μ (w + 1)) k s f (VV (μ w 1 - 1 - k).toNat)) f.toNat) → (10 - f).toNat < N → gf_G X E Q 10 gf_φ m' 43 [(7, .long (gf_l v)), (9, .int (gf_i f)), (6, .int (gf_i s)), (0, .ref (gf_ad E 59)), (1, .ref (gf_ad E g)), (2, .ref (gf_ad E w)), (3, .int (gf_i c)), (4, .int (gf_i x4)), (5, .int (gf_i k))] [] := by
                intro N
                induction N with
                | zero => intro v f hinv hN; exact absurd hN (Nat.not_lt_zero _)
                | succ N ih43_5 =>
                  intro v f hinv hN
                  have hinv0 := hinv
                  obtain ⟨hf0, hf1, hv7⟩ := hinv
                  have hvR : 0 ≤ v ∧ v ≤ 1000000000 := by
                    have hq := pf_sumf_R (g := fun f => pf_way (μ g 0) (μ g 1) (μ g 2) (μ w 1) (μ (w + 1)) k s f (VV (μ w 1 - 1 - k).toNat)) (B := 100000000) f.toNat (fun f h0 h1 => by
                      have hz := pf_fol_R (μ g 0) (μ g 1) (μ g 2) s k f (μ w 1)
                      have := hVR (μ w 1 - 1 - k).toNat _ (by omega) hz.1 hz.2
                      show 0 ≤ pf_way _ _ _ _ _ _ _ _ _ ∧ pf_way _ _ _ _ _ _ _ _ _ ≤ _
                      unfold pf_way
                      split <;> omega)
                    rw [hv7]
                    omega
                  refine gf_iload C dd_Ou_waysToFill_43 1 rfl ?_
                  refine gf_bipush C dd_Ou_waysToFill_45 (by decide +kernel) ?_
                  refine gf_icmp_ge 73 C dd_Ou_waysToFill_47 (by decide) (by omega) (by omega) (fun h47 => ?_) (fun h47 => ?_)
                  · skip
                    refine gf_aload_n C dd_Ou_waysToFill_73 3 rfl ?_
                    refine gf_iload C dd_Ou_waysToFill_74 8 rfl ?_
                    refine gf_iload C dd_Ou_waysToFill_76 2 rfl ?_
                    refine gf_lload C dd_Ou_waysToFill_78 0 rfl ?_
                    refine gf_callVv (st := []) (As := [.int (gf_i k), .int (gf_i s), .long (gf_l v)]) C wk_Ou_37 gf_cl1 (show gf_is 81 59 0 1 2 by decide) (ct_Ou_keepValue (gf_xl X) E k s v m' (by omega) (by omega) (by omega)) rfl ⟨rfl, rfl, rfl, rfl⟩ (Nat.le_of_ble_eq_true rfl) rfl dd_Ou_waysToFill_80 (fun m80 hp80 => ?_)
                    obtain ⟨x83, hx83⟩ : ∃ y : Int, y = s + 1 := ⟨_, rfl⟩
                    refine gf_iinc (q := 2) (v := x83) (lv' := [(6, .int (gf_i x83)), (7, .long (gf_l v)), (9, .int (gf_i f)), (0, .ref (gf_ad E 59)), (1, .ref (gf_ad E g)), (2, .ref (gf_ad E w)), (3, .int (gf_i c)), (4, .int (gf_i x4)), (5, .int (gf_i k))]) C dd_Ou_waysToFill_83 rfl hx83 (by decide) rfl ?_
                    refine gf_goto 30 C dd_Ou_waysToFill_86 (by decide) ?_
                    refine gf_lsub [0, 3, 4, 5, 6, 7, 8] rfl ?_
                    exact ih30_4 x83 m80 (by
                                have hkp := gf_tb_keep (by omega) hp80 htb htr (by rw [hVS k s (by omega) (by omega), hv7, show f.toNat = 10 by omega])
                                exact ⟨by omega, by omega, hkp.1, by rw [hx83]; exact hkp.2, fun x y h => by rw [hp80, gf_up_k h]; exact ef31 x y h⟩) (by omega)
                  · skip
                    refine gf_lload C dd_Ou_waysToFill_50 0 rfl ?_
                    refine gf_aload_n C dd_Ou_waysToFill_52 3 rfl ?_
                    refine gf_aload_n C dd_Ou_waysToFill_53 4 rfl ?_
                    refine gf_aload_n C dd_Ou_waysToFill_54 5 rfl ?_
                    refine gf_iload C dd_Ou_waysToFill_55 8 rfl ?_
                    refine gf_iload C dd_Ou_waysToFill_57 2 rfl ?_
                    refine gf_iload C dd_Ou_waysToFill_59 1 rfl ?_
                    refine gf_callVl (st := [.long (gf_l v)]) (As := [.ref (gf_ad E g), .ref (gf_ad E w), .int (gf_i k), .int (gf_i s), .int (gf_i f)]) C wk_Ou_61 gf_cl1 (show gf_is 81 59 0 1 2 by decide) (ct_Ou_waysWith (gf_xl X) E g w m' hg hg58 hG31 hw hw12 k s f (by rw [e41b]; omega) (by omega) (by omega) hvb) rfl ⟨rfl, rfl, rfl, rfl⟩ (Nat.le_of_ble_eq_true rfl) rfl dd_Ou_waysToFill_61 (fun r61 m61 hR61 hp61 => ?_)
                    have hr61 := hp61.1
                    refine gf_pm hp61.2 ?_
                    have hoe : r61 = pf_way (μ g 0) (μ g 1) (μ g 2) (μ w 1) (μ (w + 1)) k s f (VV (μ w 1 - 1 - k).toNat) := by
                      rw [hr61.1, ef31 g 0 (by omega), ef31 g 1 (by omega), ef31 g 2 (by omega), e41b]
                      refine pf_way_congr (ef31 (w + 1) k (by omega)) (fun z h0 h1 => ?_)
                      rw [htb (k + 1) z (by omega) (by omega) h0 h1]
                      congr 1
                      omega
                    refine gf_ladd C dd_Ou_waysToFill_64 ?_
                    refine gf_nml (fun x65 hx65 => ?_)
                    refine gf_lstore (lv' := [(7, .long (gf_l x65)), (9, .int (gf_i f)), (6, .int (gf_i s)), (0, .ref (gf_ad E 59)), (1, .ref (gf_ad E g)), (2, .ref (gf_ad E w)), (3, .int (gf_i c)), (4, .int (gf_i x4)), (5, .int (gf_i k))]) C dd_Ou_waysToFill_65 (by decide) rfl ?_
                    obtain ⟨x67, hx67⟩ : ∃ y : Int, y = f + 1 := ⟨_, rfl⟩
                    refine gf_iinc (q := 1) (v := x67) (lv' := [(9, .int (gf_i x67)), (7, .long (gf_l x65)), (6, .int (gf_i s)), (0, .ref (gf_ad E 59)), (1, .ref (gf_ad E g)), (2, .ref (gf_ad E w)), (3, .int (gf_i c)), (4, .int (gf_i x4)), (5, .int (gf_i k))]) C dd_Ou_waysToFill_67 rfl hx67 (by decide) rfl ?_
                    refine gf_goto 43 C dd_Ou_waysToFill_70 (by decide) ?_
                    refine gf_lsub [1, 0, 2, 3, 4, 5, 6, 7, 8] rfl ?_
                    exact ih43_5 x65 x67 (by
                                  refine ⟨by omega, by omega, ?_⟩
                                  rw [hx65, hx67, hv7, show (f + 1).toNat = f.toNat + 1 by omega, hoe]
                                  show _ = _ + (pf_way _ _ _ _ _ _ _ ((f.toNat : Nat) : Int) _)
                                  rw [show ((f.toNat : Nat) : Int) = f by omega]) (by omega)
              refine gf_lsub [1, 0, 2, 3, 4, 5, 6, 7, 8] rfl ?_
              exact L43_5 _ 0 0 (⟨by omega, by omega, rfl⟩) (Nat.lt_succ_self _)
        refine gf_lsub [0, 2, 3, 4, 5, 6, 1] rfl ?_
        exact L30_4 _ 0 m (⟨by omega, by omega, hk2, fun z h0 h1 => by omega, hk3⟩) (Nat.lt_succ_self _)
  refine gf_lsub [0, 2, 3, 4, 5, 1] rfl ?_
  exact L22_1 _ x20 m13 (⟨by omega, by omega, fun j z h0 h1 h2 h3 => by rw [show j = x4 by omega, hp14a z h2 h3, show (μ w 1 - x4).toNat = 0 by omega, hVV, hx4]; rfl, hp14b⟩) (Nat.lt_succ_self _)
end
section
/-! by turns, over copies -/
def pf_bst (much : Int) (g : Int → Int) : Nat → Int
  | 0 => g 0
  | i + 1 => if much = 0 then gf_min (pf_bst much g i) (g (i + 1)) else gf_max (pf_bst much g i) (g (i + 1))
theorem pf_bst_R {much : Int} {g : Int → Int} {B : Int} : ∀ n : Nat, (∀ f : Int, 0 ≤ f → f ≤ n → 0 ≤ g f ∧ g f ≤ B) → 0 ≤ pf_bst much g n ∧ pf_bst much g n ≤ B
  | 0, h => h 0 (by omega) (by omega)
  | n + 1, h => by
    have ih := pf_bst_R (much := much) n (fun f h0 h1 => h f h0 (by omega))
    have := h (n + 1) (by omega) (by omega)
    unfold pf_bst gf_min gf_max
    repeat' split
    all_goals omega
theorem pf_bst_congr {much : Int} {g h : Int → Int} : ∀ n : Nat, (∀ f : Int, 0 ≤ f → f ≤ n → g f = h f) → pf_bst much g n = pf_bst much h n
  | 0, e => e 0 (by omega) (by omega)
  | n + 1, e => by unfold pf_bst; rw [pf_bst_congr n (fun f h0 h1 => e f h0 (by omega)), e (n + 1) (by omega) (by omega)]
/-- one turn: z figures in all, n of them are there -/
def pf_stT (K F S z n : Int) (r : Nat) (s : Int) (nx : Int → Int) : Int := pf_bst (if (z - 1 - r - n) % 2 = 0 then 1 else 0) (fun f => nx (pf_fol K F S s (z - 1 - r) f z)) 9
def pf_VT (K F S z n : Int) : Nat → Int → Int := pf_dp (pf_stT K F S z n) (fun s => pf_fin K s z)
theorem pf_VT_R (K F S z n : Int) : ∀ (r : Nat) (s : Int), 0 ≤ s ∧ s ≤ 10 → 0 ≤ pf_VT K F S z n r s ∧ pf_VT K F S z n r s ≤ 10
  | 0, s, h => pf_fin_R h
  | r + 1, s, _ => by
    show 0 ≤ pf_bst _ _ 9 ∧ pf_bst _ _ 9 ≤ 10
    exact pf_bst_R 9 (fun f h0 h1 => pf_VT_R K F S z n r _ (pf_fol_R _ _ _ _ _ _ _))
/-- copies: each figure by p of 12 the next one -/
def pf_stO (K F S n p : Int) (x : Int → Int) (r : Nat) (s : Int) (nx : Int → Int) : Int := p * nx (pf_fol K F S s (n - 1 - r) ((x (n - 1 - r) + 1) % 10) n) + (12 - p) * nx (pf_fol K F S s (n - 1 - r) (x (n - 1 - r)) n)
def pf_VO (K F S n p : Int) (x : Int → Int) (e : Int → Int) : Nat → Int → Int := pf_dp (pf_stO K F S n p x) e
theorem pf_VO_R {K F S n p : Int} {x : Int → Int} {e : Int → Int} (hp : 0 ≤ p ∧ p ≤ 12) (he : ∀ s : Int, 0 ≤ s → s ≤ 10 → 0 ≤ e s ∧ e s ≤ 10) : ∀ (r : Nat) (s : Int), 0 ≤ s ∧ s ≤ 10 → 0 ≤ pf_VO K F S n p x e r s ∧ pf_VO K F S n p x e r s ≤ 10 * 12 ^ r
  | 0, s, h => by have := he s h.1 h.2; simpa [pf_VO, pf_dp] using this
  | r + 1, s, _ => by
    have h1 := pf_VO_R (K := K) (F := F) (S := S) (n := n) (x := x) hp he r (pf_fol K F S s (n - 1 - r) ((x (n - 1 - r) + 1) % 10) n) (pf_fol_R _ _ _ _ _ _ _)
    have h2 := pf_VO_R (K := K) (F := F) (S := S) (n := n) (x := x) hp he r (pf_fol K F S s (n - 1 - r) (x (n - 1 - r)) n) (pf_fol_R _ _ _ _ _ _ _)
    show 0 ≤ p * pf_VO K F S n p x e r _ + (12 - p) * pf_VO K F S n p x e r _ ∧ p * pf_VO K F S n p x e r _ + (12 - p) * pf_VO K F S n p x e r _ ≤ _
    generalize pf_VO K F S n p x e r (pf_fol K F S s (n - 1 - r) ((x (n - 1 - r) + 1) % 10) n) = a at h1 ⊢
    generalize pf_VO K F S n p x e r (pf_fol K F S s (n - 1 - r) (x (n - 1 - r)) n) = b at h2 ⊢
    have e1 : (12 : Int) ^ (r + 1) = 12 ^ r * 12 := Int.pow_succ 12 r
    rw [e1]
    generalize (12 : Int) ^ r = t at h1 h2 ⊢
    have h3 : 0 ≤ p * a ∧ p * a ≤ p * (10 * t) := ⟨Int.mul_nonneg hp.1 h1.1, Int.mul_le_mul_of_nonneg_left h1.2 hp.1⟩
    have h4 : 0 ≤ (12 - p) * b ∧ (12 - p) * b ≤ (12 - p) * (10 * t) := ⟨Int.mul_nonneg (by omega) h2.1, Int.mul_le_mul_of_nonneg_left h2.2 (by omega)⟩
    have h5 : p * (10 * t) + (12 - p) * (10 * t) = 10 * (t * 12) := by
      rw [← Int.add_mul, show p + (12 - p) = 12 by omega]
      omega
    omega
theorem pf_12_8 {k : Nat} (h : k ≤ 8) : (12 : Int) ^ k ≤ 429981696 := by
  have : k = 0 ∨ k = 1 ∨ k = 2 ∨ k = 3 ∨ k = 4 ∨ k = 5 ∨ k = 6 ∨ k = 7 ∨ k = 8 := by omega
  rcases this with rfl | rfl | rfl | rfl | rfl | rfl | rfl | rfl | rfl <;> decide
theorem dd_Ou_afterBestFigure_0 : decode cc_Ou_afterBestFigure 0 = .ok (.aload_n 0, 1) := by decide +kernel
theorem dd_Ou_afterBestFigure_1 : decode cc_Ou_afterBestFigure 1 = .ok (.iload_n 2, 1) := by decide +kernel
theorem dd_Ou_afterBestFigure_2 : decode cc_Ou_afterBestFigure 2 = .ok (.iconst 1, 1) := by decide +kernel
theorem dd_Ou_afterBestFigure_3 : decode cc_Ou_afterBestFigure 3 = .ok (.iadd, 1) := by decide +kernel
theorem dd_Ou_afterBestFigure_4 : decode cc_Ou_afterBestFigure 4 = .ok (.aload_n 1, 1) := by decide +kernel
theorem dd_Ou_afterBestFigure_5 : decode cc_Ou_afterBestFigure 5 = .ok (.iload_n 3, 1) := by decide +kernel
theorem dd_Ou_afterBestFigure_6 : decode cc_Ou_afterBestFigure 6 = .ok (.iload_n 2, 1) := by decide +kernel
theorem dd_Ou_afterBestFigure_7 : decode cc_Ou_afterBestFigure 7 = .ok (.iconst 0, 1) := by decide +kernel
theorem dd_Ou_afterBestFigure_8 : decode cc_Ou_afterBestFigure 8 = .ok (.iload 4, 2) := by decide +kernel
theorem dd_Ou_afterBestFigure_10 : decode cc_Ou_afterBestFigure 10 = .ok (.invokevirtual 48, 3) := by decide +kernel
theorem dd_Ou_afterBestFigure_13 : decode cc_Ou_afterBestFigure 13 = .ok (.invokevirtual 44, 3) := by decide +kernel
theorem dd_Ou_afterBestFigure_16 : decode cc_Ou_afterBestFigure 16 = .ok (.lstore 6, 2) := by decide +kernel
theorem dd_Ou_afterBestFigure_18 : decode cc_Ou_afterBestFigure 18 = .ok (.iconst 1, 1) := by decide +kernel
theorem dd_Ou_afterBestFigure_19 : decode cc_Ou_afterBestFigure 19 = .ok (.istore 8, 2) := by decide +kernel
theorem dd_Ou_afterBestFigure_21 : decode cc_Ou_afterBestFigure 21 = .ok (.iload 8, 2) := by decide +kernel
theorem dd_Ou_afterBestFigure_23 : decode cc_Ou_afterBestFigure 23 = .ok (.bipush 10, 2) := by decide +kernel
theorem dd_Ou_afterBestFigure_25 : decode cc_Ou_afterBestFigure 25 = .ok (.if_icmp .ge 52, 3) := by decide +kernel
theorem dd_Ou_afterBestFigure_28 : decode cc_Ou_afterBestFigure 28 = .ok (.aload_n 0, 1) := by decide +kernel
theorem dd_Ou_afterBestFigure_29 : decode cc_Ou_afterBestFigure 29 = .ok (.iload_n 2, 1) := by decide +kernel
theorem dd_Ou_afterBestFigure_30 : decode cc_Ou_afterBestFigure 30 = .ok (.iconst 1, 1) := by decide +kernel
theorem dd_Ou_afterBestFigure_31 : decode cc_Ou_afterBestFigure 31 = .ok (.iadd, 1) := by decide +kernel
theorem dd_Ou_afterBestFigure_32 : decode cc_Ou_afterBestFigure 32 = .ok (.aload_n 1, 1) := by decide +kernel
theorem dd_Ou_afterBestFigure_33 : decode cc_Ou_afterBestFigure 33 = .ok (.iload_n 3, 1) := by decide +kernel
theorem dd_Ou_afterBestFigure_34 : decode cc_Ou_afterBestFigure 34 = .ok (.iload_n 2, 1) := by decide +kernel
theorem dd_Ou_afterBestFigure_35 : decode cc_Ou_afterBestFigure 35 = .ok (.iload 8, 2) := by decide +kernel
theorem dd_Ou_afterBestFigure_37 : decode cc_Ou_afterBestFigure 37 = .ok (.iload 4, 2) := by decide +kernel
theorem dd_Ou_afterBestFigure_39 : decode cc_Ou_afterBestFigure 39 = .ok (.invokevirtual 48, 3) := by decide +kernel
theorem dd_Ou_afterBestFigure_42 : decode cc_Ou_afterBestFigure 42 = .ok (.invokevirtual 44, 3) := by decide +kernel
theorem dd_Ou_afterBestFigure_45 : decode cc_Ou_afterBestFigure 45 = .ok (.lstore 9, 2) := by decide +kernel
theorem dd_Ou_afterBestFigure_47 : decode cc_Ou_afterBestFigure 47 = .ok (.iload 5, 2) := by decide +kernel
theorem dd_Ou_afterBestFigure_49 : decode cc_Ou_afterBestFigure 49 = .ok (.ifCond .eq 13, 3) := by decide +kernel
theorem dd_Ou_afterBestFigure_52 : decode cc_Ou_afterBestFigure 52 = .ok (.lload 6, 2) := by decide +kernel
theorem dd_Ou_afterBestFigure_54 : decode cc_Ou_afterBestFigure 54 = .ok (.lload 9, 2) := by decide +kernel
theorem dd_Ou_afterBestFigure_56 : decode cc_Ou_afterBestFigure 56 = .ok (.invokestatic 79, 3) := by decide +kernel
theorem dd_Ou_afterBestFigure_59 : decode cc_Ou_afterBestFigure 59 = .ok (.goto 10, 3) := by decide +kernel
theorem dd_Ou_afterBestFigure_62 : decode cc_Ou_afterBestFigure 62 = .ok (.lload 6, 2) := by decide +kernel
theorem dd_Ou_afterBestFigure_64 : decode cc_Ou_afterBestFigure 64 = .ok (.lload 9, 2) := by decide +kernel
theorem dd_Ou_afterBestFigure_66 : decode cc_Ou_afterBestFigure 66 = .ok (.invokestatic 31, 3) := by decide +kernel
theorem dd_Ou_afterBestFigure_69 : decode cc_Ou_afterBestFigure 69 = .ok (.lstore 6, 2) := by decide +kernel
theorem dd_Ou_afterBestFigure_71 : decode cc_Ou_afterBestFigure 71 = .ok (.iinc 8 1, 3) := by decide +kernel
theorem dd_Ou_afterBestFigure_74 : decode cc_Ou_afterBestFigure 74 = .ok (.goto (-53), 3) := by decide +kernel
theorem dd_Ou_afterBestFigure_77 : decode cc_Ou_afterBestFigure 77 = .ok (.lload 6, 2) := by decide +kernel
theorem dd_Ou_afterBestFigure_79 : decode cc_Ou_afterBestFigure 79 = .ok (.lreturn, 1) := by decide +kernel
set_option maxRecDepth 100000 in
set_option maxHeartbeats 4000000 in
theorem ct_Ou_afterBestFigure (l : Launch) (E : gf_E) (g : Int) (μ : gf_M) (hg : gf_oGd g) (hg58 : g ≤ 58) (hG : gf_okG μ g) (k s z much : Int) (hk : 0 ≤ k ∧ k < z ∧ z ≤ 8) (hs : 0 ≤ s ∧ s ≤ 10) (hmu : much = 0 ∨ much = 1) (hv : ∀ y : Int, 0 ≤ y → y ≤ 10 → 0 ≤ μ 60 ((k + 1) * 11 + y) ∧ μ 60 ((k + 1) * 11 + y) ≤ 10) : gf_Ml l E yy_Ou_afterBestFigure cc_Ou_afterBestFigure 11 (gf_rm 2 45) 81 gf_ref μ [.ref (gf_ad E 59), .ref (gf_ad E g), .int (gf_i k), .int (gf_i s), .int (gf_i z), .int (gf_i much)] (fun r μ' => (r = pf_bst much (fun f => μ 60 ((k + 1) * 11 + pf_fol (μ g 0) (μ g 1) (μ g 2) s k f z)) 9 ∧ 0 ≤ r ∧ r ≤ 10) ∧ μ' = μ) := by
  refine gf_ml (by decide +kernel) (Nat.le_of_ble_eq_true rfl) (by decide) (fun X Q hlx C hQ => ?_)
  subst hlx
  replace C : gf_C X E cc_Ou_afterBestFigure 11 "GuardFigures$Outlook" (gf_rm 2 45) := C
  show gf_G X E Q 11 gf_φ μ 0 [(0, .ref (gf_ad E 59)), (1, .ref (gf_ad E g)), (2, .int (gf_i k)), (3, .int (gf_i s)), (4, .int (gf_i z)), (5, .int (gf_i much))] []
  refine gf_aload_n C dd_Ou_afterBestFigure_0 0 rfl ?_
  refine gf_iload_n C dd_Ou_afterBestFigure_1 2 rfl ?_
  refine gf_iconst C dd_Ou_afterBestFigure_2 ?_
  refine gf_iadd C dd_Ou_afterBestFigure_3 ?_
  refine gf_aload_n C dd_Ou_afterBestFigure_4 1 rfl ?_
  refine gf_iload_n C dd_Ou_afterBestFigure_5 3 rfl ?_
  refine gf_iload_n C dd_Ou_afterBestFigure_6 2 rfl ?_
  refine gf_iconst C dd_Ou_afterBestFigure_7 ?_
  refine gf_iload C dd_Ou_afterBestFigure_8 4 rfl ?_
  refine gf_callVi (st := [.int (gf_i (k + 1)), .ref (gf_ad E 59)]) (As := [.int (gf_i s), .int (gf_i k), .int (gf_i 0), .int (gf_i z)]) C wk_Ou_48 gf_cl0 hg (ct_Gd_follow (gf_xl X) E g s k 0 z μ hg (hG) (by omega) (by omega) (by omega)) rfl ⟨rfl, rfl, rfl, rfl⟩ (Nat.le_of_ble_eq_true rfl) rfl dd_Ou_afterBestFigure_10 (fun r10 m10 hR10 hp10 => ?_)
  have hr10 := hp10.1
  refine gf_pm hp10.2 ?_
  refine gf_callVl (st := []) (As := [.int (gf_i (k + 1)), .int (gf_i r10)]) C wk_Ou_44 gf_cl1 (show gf_is 81 59 0 1 2 by decide) (ct_Ou_valueOf (gf_xl X) E (k + 1) r10 μ (by omega) (by omega)) rfl ⟨rfl, rfl, rfl, rfl⟩ (Nat.le_of_ble_eq_true rfl) rfl dd_Ou_afterBestFigure_13 (fun r13 m13 hR13 hp13 => ?_)
  have hr13 := hp13.1
  refine gf_pm hp13.2 ?_
  have hb0 : r13 = μ 60 ((k + 1) * 11 + pf_fol (μ g 0) (μ g 1) (μ g 2) s k 0 z) := by rw [hr13, hr10.1]
  have hq0 := hv r10 (by omega) (by omega)
  rw [← hr13] at hq0
  refine gf_lstore (lv' := [(6, .long (gf_l r13)), (0, .ref (gf_ad E 59)), (1, .ref (gf_ad E g)), (2, .int (gf_i k)), (3, .int (gf_i s)), (4, .int (gf_i z)), (5, .int (gf_i much))]) C dd_Ou_afterBestFigure_16 (by decide) rfl ?_
  refine gf_iconst C dd_Ou_afterBestFigure_18 ?_
  refine gf_istore (lv' := [(8, .int (gf_i 1)), (6, .long (gf_l r13)), (0, .ref (gf_ad E 59)), (1, .ref (gf_ad E g)), (2, .int (gf_i k)), (3, .int (gf_i s)), (4, .int (gf_i z)), (5, .int (gf_i much))]) C dd_Ou_afterBestFigure_19 (by decide) rfl ?_
  have L21_1 : ∀ (N : Nat) (b f : Int) , (1 ≤ f ∧ f ≤ 10 ∧ 0 ≤ b ∧ b ≤ 10 ∧ b = pf_bst much (fun f => μ 60 ((k + 1) * 11 + pf_fol (μ g 0) (μ g 1) (μ g 2) s k f z)) (f - 1).toNat) → (10 - f).toNat < N → gf_G X E Q 11 gf_φ μ 21 [(6, .long (gf_l b)), (8, .int (gf_i f)), (0, .ref (gf_ad E 59)), (1, .ref (gf_ad E g)), (2, .int (gf_i k)), (3, .int (gf_i s)), (4, .int (gf_i z)), (5, .int (gf_i much))] [] := by
    intro N
    induction N with
    | zero => intro b f hinv hN; exact absurd hN (Nat.not_lt_zero _)
    | succ N ih21_1 =>
      intro b f hinv hN
      have hinv0 := hinv
      obtain ⟨hf0, hf1, hb2, hb3, hb4⟩ := hinv
      refine gf_iload C dd_Ou_afterBestFigure_21 1 rfl ?_
      refine gf_bipush C dd_Ou_afterBestFigure_23 (by decide +kernel) ?_
      refine gf_icmp_ge 77 C dd_Ou_afterBestFigure_25 (by decide) (by omega) (by omega) (fun h25 => ?_) (fun h25 => ?_)
      · skip
        refine gf_lload C dd_Ou_afterBestFigure_77 0 rfl ?_
        refine gf_lret C hQ dd_Ou_afterBestFigure_79 (by omega) ?_
        refine ⟨⟨?_, by omega, by omega⟩, rfl⟩
        rw [hb4, show (f - 1).toNat = 9 by omega]
      · skip
        refine gf_aload_n C dd_Ou_afterBestFigure_28 2 rfl ?_
        refine gf_iload_n C dd_Ou_afterBestFigure_29 4 rfl ?_
        refine gf_iconst C dd_Ou_afterBestFigure_30 ?_
        refine gf_iadd C dd_Ou_afterBestFigure_31 ?_
        refine gf_aload_n C dd_Ou_afterBestFigure_32 3 rfl ?_
        refine gf_iload_n C dd_Ou_afterBestFigure_33 5 rfl ?_
        refine gf_iload_n C dd_Ou_afterBestFigure_34 4 rfl ?_
        refine gf_iload C dd_Ou_afterBestFigure_35 1 rfl ?_
        refine gf_iload C dd_Ou_afterBestFigure_37 6 rfl ?_
        refine gf_callVi (st := [.int (gf_i (k + 1)), .ref (gf_ad E 59)]) (As := [.int (gf_i s), .int (gf_i k), .int (gf_i f), .int (gf_i z)]) C wk_Ou_48 gf_cl0 hg (ct_Gd_follow (gf_xl X) E g s k f z μ hg (hG) (by omega) (by omega) (by omega)) rfl ⟨rfl, rfl, rfl, rfl⟩ (Nat.le_of_ble_eq_true rfl) rfl dd_Ou_afterBestFigure_39 (fun r39 m39 hR39 hp39 => ?_)
        have hr39 := hp39.1
        refine gf_pm hp39.2 ?_
        refine gf_callVl (st := []) (As := [.int (gf_i (k + 1)), .int (gf_i r39)]) C wk_Ou_44 gf_cl1 (show gf_is 81 59 0 1 2 by decide) (ct_Ou_valueOf (gf_xl X) E (k + 1) r39 μ (by omega) (by omega)) rfl ⟨rfl, rfl, rfl, rfl⟩ (Nat.le_of_ble_eq_true rfl) rfl dd_Ou_afterBestFigure_42 (fun r42 m42 hR42 hp42 => ?_)
        have hr42 := hp42.1
        refine gf_pm hp42.2 ?_
        have hb1 : r42 = μ 60 ((k + 1) * 11 + pf_fol (μ g 0) (μ g 1) (μ g 2) s k f z) := by rw [hr42, hr39.1]
        have hq1 := hv r39 (by omega) (by omega)
        rw [← hr42] at hq1
        refine gf_lstore (lv' := [(9, .long (gf_l r42)), (6, .long (gf_l b)), (8, .int (gf_i f)), (0, .ref (gf_ad E 59)), (1, .ref (gf_ad E g)), (2, .int (gf_i k)), (3, .int (gf_i s)), (4, .int (gf_i z)), (5, .int (gf_i much))]) C dd_Ou_afterBestFigure_45 (by decide) rfl ?_
        refine gf_iload C dd_Ou_afterBestFigure_47 8 rfl ?_
        refine gf_if_eq 62 C dd_Ou_afterBestFigure_49 (by decide) (by omega) (fun h49 => ?_) (fun h49 => ?_)
        · skip
          refine gf_lload C dd_Ou_afterBestFigure_62 1 rfl ?_
          refine gf_lload C dd_Ou_afterBestFigure_64 0 rfl ?_
          refine gf_mminl C (gf_mem 604 (by decide +kernel) (by decide +kernel)) dd_Ou_afterBestFigure_66 (by omega) ⟨by decide, Nat.le_of_ble_eq_true rfl, rfl, rfl⟩ ?_
          refine gf_nml (fun x69 hx69 => ?_)
          refine gf_lstore (lv' := [(6, .long (gf_l x69)), (9, .long (gf_l r42)), (8, .int (gf_i f)), (0, .ref (gf_ad E 59)), (1, .ref (gf_ad E g)), (2, .int (gf_i k)), (3, .int (gf_i s)), (4, .int (gf_i z)), (5, .int (gf_i much))]) C dd_Ou_afterBestFigure_69 (by decide) rfl ?_
          obtain ⟨x71, hx71⟩ : ∃ y : Int, y = f + 1 := ⟨_, rfl⟩
          refine gf_iinc (q := 2) (v := x71) (lv' := [(8, .int (gf_i x71)), (6, .long (gf_l x69)), (9, .long (gf_l r42)), (0, .ref (gf_ad E 59)), (1, .ref (gf_ad E g)), (2, .int (gf_i k)), (3, .int (gf_i s)), (4, .int (gf_i z)), (5, .int (gf_i much))]) C dd_Ou_afterBestFigure_71 rfl hx71 (by decide) rfl ?_
          refine gf_goto 21 C dd_Ou_afterBestFigure_74 (by decide) ?_
          refine gf_lsub [1, 0, 3, 4, 5, 6, 7, 8] rfl ?_
          exact ih21_1 x69 x71 (by
                  refine ⟨by omega, by omega, by rw [hx69]; first | (unfold gf_max; split <;> omega) | (unfold gf_min; split <;> omega), by rw [hx69]; first | (unfold gf_max; split <;> omega) | (unfold gf_min; split <;> omega), ?_⟩
                  rw [hx69, hx71, show (f + 1 - 1).toNat = (f - 1).toNat + 1 by omega]
                  show _ = if much = 0 then gf_min _ (μ 60 ((k + 1) * 11 + pf_fol _ _ _ s k (((f - 1).toNat : Nat) + 1 : Int) z)) else gf_max _ (μ 60 ((k + 1) * 11 + pf_fol _ _ _ s k (((f - 1).toNat : Nat) + 1 : Int) z))
                  rw [show (((f - 1).toNat : Nat) + 1 : Int) = f by omega, ← hb1, ← hb4]
                  first | (rw [if_neg (by omega)]; done) | (rw [if_pos (by omega)]; done)) (by omega)
        · skip
          refine gf_lload C dd_Ou_afterBestFigure_52 1 rfl ?_
          refine gf_lload C dd_Ou_afterBestFigure_54 0 rfl ?_
          refine gf_mmaxl C (gf_mem 669 (by decide +kernel) (by decide +kernel)) dd_Ou_afterBestFigure_56 (by omega) ⟨by decide, Nat.le_of_ble_eq_true rfl, rfl, rfl⟩ ?_
          refine gf_goto 69 C dd_Ou_afterBestFigure_59 (by decide) ?_
          refine gf_nml (fun x69 hx69 => ?_)
          refine gf_lstore (lv' := [(6, .long (gf_l x69)), (9, .long (gf_l r42)), (8, .int (gf_i f)), (0, .ref (gf_ad E 59)), (1, .ref (gf_ad E g)), (2, .int (gf_i k)), (3, .int (gf_i s)), (4, .int (gf_i z)), (5, .int (gf_i much))]) C dd_Ou_afterBestFigure_69 (by decide) rfl ?_
          obtain ⟨x71, hx71⟩ : ∃ y : Int, y = f + 1 := ⟨_, rfl⟩
          refine gf_iinc (q := 2) (v := x71) (lv' := [(8, .int (gf_i x71)), (6, .long (gf_l x69)), (9, .long (gf_l r42)), (0, .ref (gf_ad E 59)), (1, .ref (gf_ad E g)), (2, .int (gf_i k)), (3, .int (gf_i s)), (4, .int (gf_i z)), (5, .int (gf_i much))]) C dd_Ou_afterBestFigure_71 rfl hx71 (by decide) rfl ?_
          refine gf_goto 21 C dd_Ou_afterBestFigure_74 (by decide) ?_
          refine gf_lsub [1, 0, 3, 4, 5, 6, 7, 8] rfl ?_
          exact ih21_1 x69 x71 (by
                  refine ⟨by omega, by omega, by rw [hx69]; first | (unfold gf_max; split <;> omega) | (unfold gf_min; split <;> omega), by rw [hx69]; first | (unfold gf_max; split <;> omega) | (unfold gf_min; split <;> omega), ?_⟩
                  rw [hx69, hx71, show (f + 1 - 1).toNat = (f - 1).toNat + 1 by omega]
                  show _ = if much = 0 then gf_min _ (μ 60 ((k + 1) * 11 + pf_fol _ _ _ s k (((f - 1).toNat : Nat) + 1 : Int) z)) else gf_max _ (μ 60 ((k + 1) * 11 + pf_fol _ _ _ s k (((f - 1).toNat : Nat) + 1 : Int) z))
                  rw [show (((f - 1).toNat : Nat) + 1 : Int) = f by omega, ← hb1, ← hb4]
                  first | (rw [if_neg (by omega)]; done) | (rw [if_pos (by omega)]; done)) (by omega)
  refine gf_lsub [1, 0, 2, 3, 4, 5, 6, 7] rfl ?_
  exact L21_1 _ r13 1 (⟨by omega, by omega, by omega, by omega, hb0⟩) (Nat.lt_succ_self _)

theorem dd_Ou_endOfTurns_0 : decode cc_Ou_endOfTurns 0 = .ok (.aload_n 2, 1) := by decide +kernel
theorem dd_Ou_endOfTurns_1 : decode cc_Ou_endOfTurns 1 = .ok (.getfield 15, 3) := by decide +kernel
theorem dd_Ou_endOfTurns_4 : decode cc_Ou_endOfTurns 4 = .ok (.iload_n 3, 1) := by decide +kernel
theorem dd_Ou_endOfTurns_5 : decode cc_Ou_endOfTurns 5 = .ok (.bipush 8, 2) := by decide +kernel
theorem dd_Ou_endOfTurns_7 : decode cc_Ou_endOfTurns 7 = .ok (.aload_n 2, 1) := by decide +kernel
theorem dd_Ou_endOfTurns_8 : decode cc_Ou_endOfTurns 8 = .ok (.getfield 15, 3) := by decide +kernel
theorem dd_Ou_endOfTurns_11 : decode cc_Ou_endOfTurns 11 = .ok (.isub, 1) := by decide +kernel
theorem dd_Ou_endOfTurns_12 : decode cc_Ou_endOfTurns 12 = .ok (.invokestatic 68, 3) := by decide +kernel
theorem dd_Ou_endOfTurns_15 : decode cc_Ou_endOfTurns 15 = .ok (.iadd, 1) := by decide +kernel
theorem dd_Ou_endOfTurns_16 : decode cc_Ou_endOfTurns 16 = .ok (.istore 4, 2) := by decide +kernel
theorem dd_Ou_endOfTurns_18 : decode cc_Ou_endOfTurns 18 = .ok (.aload_n 0, 1) := by decide +kernel
theorem dd_Ou_endOfTurns_19 : decode cc_Ou_endOfTurns 19 = .ok (.aload_n 1, 1) := by decide +kernel
theorem dd_Ou_endOfTurns_20 : decode cc_Ou_endOfTurns 20 = .ok (.iload 4, 2) := by decide +kernel
theorem dd_Ou_endOfTurns_22 : decode cc_Ou_endOfTurns 22 = .ok (.invokevirtual 71, 3) := by decide +kernel
theorem dd_Ou_endOfTurns_25 : decode cc_Ou_endOfTurns 25 = .ok (.iload 4, 2) := by decide +kernel
theorem dd_Ou_endOfTurns_27 : decode cc_Ou_endOfTurns 27 = .ok (.iconst 1, 1) := by decide +kernel
theorem dd_Ou_endOfTurns_28 : decode cc_Ou_endOfTurns 28 = .ok (.isub, 1) := by decide +kernel
theorem dd_Ou_endOfTurns_29 : decode cc_Ou_endOfTurns 29 = .ok (.istore 5, 2) := by decide +kernel
theorem dd_Ou_endOfTurns_31 : decode cc_Ou_endOfTurns 31 = .ok (.iload 5, 2) := by decide +kernel
theorem dd_Ou_endOfTurns_33 : decode cc_Ou_endOfTurns 33 = .ok (.aload_n 2, 1) := by decide +kernel
theorem dd_Ou_endOfTurns_34 : decode cc_Ou_endOfTurns 34 = .ok (.getfield 15, 3) := by decide +kernel
theorem dd_Ou_endOfTurns_37 : decode cc_Ou_endOfTurns 37 = .ok (.if_icmp .lt 65, 3) := by decide +kernel
theorem dd_Ou_endOfTurns_40 : decode cc_Ou_endOfTurns 40 = .ok (.iload 5, 2) := by decide +kernel
theorem dd_Ou_endOfTurns_42 : decode cc_Ou_endOfTurns 42 = .ok (.aload_n 2, 1) := by decide +kernel
theorem dd_Ou_endOfTurns_43 : decode cc_Ou_endOfTurns 43 = .ok (.getfield 15, 3) := by decide +kernel
theorem dd_Ou_endOfTurns_46 : decode cc_Ou_endOfTurns 46 = .ok (.isub, 1) := by decide +kernel
theorem dd_Ou_endOfTurns_47 : decode cc_Ou_endOfTurns 47 = .ok (.iconst 2, 1) := by decide +kernel
theorem dd_Ou_endOfTurns_48 : decode cc_Ou_endOfTurns 48 = .ok (.irem, 1) := by decide +kernel
theorem dd_Ou_endOfTurns_49 : decode cc_Ou_endOfTurns 49 = .ok (.ifCond .ne 7, 3) := by decide +kernel
theorem dd_Ou_endOfTurns_52 : decode cc_Ou_endOfTurns 52 = .ok (.iconst 1, 1) := by decide +kernel
theorem dd_Ou_endOfTurns_53 : decode cc_Ou_endOfTurns 53 = .ok (.goto 4, 3) := by decide +kernel
theorem dd_Ou_endOfTurns_56 : decode cc_Ou_endOfTurns 56 = .ok (.iconst 0, 1) := by decide +kernel
theorem dd_Ou_endOfTurns_57 : decode cc_Ou_endOfTurns 57 = .ok (.istore 6, 2) := by decide +kernel
theorem dd_Ou_endOfTurns_59 : decode cc_Ou_endOfTurns 59 = .ok (.iconst 0, 1) := by decide +kernel
theorem dd_Ou_endOfTurns_60 : decode cc_Ou_endOfTurns 60 = .ok (.istore 7, 2) := by decide +kernel
theorem dd_Ou_endOfTurns_62 : decode cc_Ou_endOfTurns 62 = .ok (.iload 7, 2) := by decide +kernel
theorem dd_Ou_endOfTurns_64 : decode cc_Ou_endOfTurns 64 = .ok (.bipush 11, 2) := by decide +kernel
theorem dd_Ou_endOfTurns_66 : decode cc_Ou_endOfTurns 66 = .ok (.if_icmp .ge 30, 3) := by decide +kernel
theorem dd_Ou_endOfTurns_69 : decode cc_Ou_endOfTurns 69 = .ok (.aload_n 0, 1) := by decide +kernel
theorem dd_Ou_endOfTurns_70 : decode cc_Ou_endOfTurns 70 = .ok (.iload 5, 2) := by decide +kernel
theorem dd_Ou_endOfTurns_72 : decode cc_Ou_endOfTurns 72 = .ok (.iload 7, 2) := by decide +kernel
theorem dd_Ou_endOfTurns_74 : decode cc_Ou_endOfTurns 74 = .ok (.aload_n 0, 1) := by decide +kernel
theorem dd_Ou_endOfTurns_75 : decode cc_Ou_endOfTurns 75 = .ok (.aload_n 1, 1) := by decide +kernel
theorem dd_Ou_endOfTurns_76 : decode cc_Ou_endOfTurns 76 = .ok (.iload 5, 2) := by decide +kernel
theorem dd_Ou_endOfTurns_78 : decode cc_Ou_endOfTurns 78 = .ok (.iload 7, 2) := by decide +kernel
theorem dd_Ou_endOfTurns_80 : decode cc_Ou_endOfTurns 80 = .ok (.iload 4, 2) := by decide +kernel
theorem dd_Ou_endOfTurns_82 : decode cc_Ou_endOfTurns 82 = .ok (.iload 6, 2) := by decide +kernel
theorem dd_Ou_endOfTurns_84 : decode cc_Ou_endOfTurns 84 = .ok (.invokevirtual 75, 3) := by decide +kernel
theorem dd_Ou_endOfTurns_87 : decode cc_Ou_endOfTurns 87 = .ok (.invokevirtual 37, 3) := by decide +kernel
theorem dd_Ou_endOfTurns_90 : decode cc_Ou_endOfTurns 90 = .ok (.iinc 7 1, 3) := by decide +kernel
theorem dd_Ou_endOfTurns_93 : decode cc_Ou_endOfTurns 93 = .ok (.goto (-31), 3) := by decide +kernel
theorem dd_Ou_endOfTurns_96 : decode cc_Ou_endOfTurns 96 = .ok (.iinc 5 (-1), 3) := by decide +kernel
theorem dd_Ou_endOfTurns_99 : decode cc_Ou_endOfTurns 99 = .ok (.goto (-68), 3) := by decide +kernel
theorem dd_Ou_endOfTurns_102 : decode cc_Ou_endOfTurns 102 = .ok (.iconst 0, 1) := by decide +kernel
theorem dd_Ou_endOfTurns_103 : decode cc_Ou_endOfTurns 103 = .ok (.istore 5, 2) := by decide +kernel
theorem dd_Ou_endOfTurns_105 : decode cc_Ou_endOfTurns 105 = .ok (.iconst 0, 1) := by decide +kernel
theorem dd_Ou_endOfTurns_106 : decode cc_Ou_endOfTurns 106 = .ok (.istore 6, 2) := by decide +kernel
theorem dd_Ou_endOfTurns_108 : decode cc_Ou_endOfTurns 108 = .ok (.iload 6, 2) := by decide +kernel
theorem dd_Ou_endOfTurns_110 : decode cc_Ou_endOfTurns 110 = .ok (.aload_n 2, 1) := by decide +kernel
theorem dd_Ou_endOfTurns_111 : decode cc_Ou_endOfTurns 111 = .ok (.getfield 15, 3) := by decide +kernel
theorem dd_Ou_endOfTurns_114 : decode cc_Ou_endOfTurns 114 = .ok (.if_icmp .ge 28, 3) := by decide +kernel
theorem dd_Ou_endOfTurns_117 : decode cc_Ou_endOfTurns 117 = .ok (.aload_n 1, 1) := by decide +kernel
theorem dd_Ou_endOfTurns_118 : decode cc_Ou_endOfTurns 118 = .ok (.iload 5, 2) := by decide +kernel
theorem dd_Ou_endOfTurns_120 : decode cc_Ou_endOfTurns 120 = .ok (.iload 6, 2) := by decide +kernel
theorem dd_Ou_endOfTurns_122 : decode cc_Ou_endOfTurns 122 = .ok (.aload_n 2, 1) := by decide +kernel
theorem dd_Ou_endOfTurns_123 : decode cc_Ou_endOfTurns 123 = .ok (.getfield 54, 3) := by decide +kernel
theorem dd_Ou_endOfTurns_126 : decode cc_Ou_endOfTurns 126 = .ok (.iload 6, 2) := by decide +kernel
theorem dd_Ou_endOfTurns_128 : decode cc_Ou_endOfTurns 128 = .ok (.iaload, 1) := by decide +kernel
theorem dd_Ou_endOfTurns_129 : decode cc_Ou_endOfTurns 129 = .ok (.iload 4, 2) := by decide +kernel
theorem dd_Ou_endOfTurns_131 : decode cc_Ou_endOfTurns 131 = .ok (.invokevirtual 48, 3) := by decide +kernel
theorem dd_Ou_endOfTurns_134 : decode cc_Ou_endOfTurns 134 = .ok (.istore 5, 2) := by decide +kernel
theorem dd_Ou_endOfTurns_136 : decode cc_Ou_endOfTurns 136 = .ok (.iinc 6 1, 3) := by decide +kernel
theorem dd_Ou_endOfTurns_139 : decode cc_Ou_endOfTurns 139 = .ok (.goto (-31), 3) := by decide +kernel
theorem dd_Ou_endOfTurns_142 : decode cc_Ou_endOfTurns 142 = .ok (.aload_n 0, 1) := by decide +kernel
theorem dd_Ou_endOfTurns_143 : decode cc_Ou_endOfTurns 143 = .ok (.aload_n 2, 1) := by decide +kernel
theorem dd_Ou_endOfTurns_144 : decode cc_Ou_endOfTurns 144 = .ok (.getfield 15, 3) := by decide +kernel
theorem dd_Ou_endOfTurns_147 : decode cc_Ou_endOfTurns 147 = .ok (.iload 5, 2) := by decide +kernel
theorem dd_Ou_endOfTurns_149 : decode cc_Ou_endOfTurns 149 = .ok (.invokevirtual 44, 3) := by decide +kernel
theorem dd_Ou_endOfTurns_152 : decode cc_Ou_endOfTurns 152 = .ok (.l2i, 1) := by decide +kernel
theorem dd_Ou_endOfTurns_153 : decode cc_Ou_endOfTurns 153 = .ok (.ireturn, 1) := by decide +kernel
set_option maxRecDepth 100000 in
set_option maxHeartbeats 4000000 in
theorem ct_Ou_endOfTurns (l : Launch) (E : gf_E) (g : Int) (μ : gf_M) (hg : gf_oGd g) (hg58 : g ≤ 58) (hG : gf_okG μ g) (t : Int) (ht : 0 ≤ t ∧ t ≤ 4) (hs : 0 ≤ μ 41 1 ∧ μ 41 1 ≤ 8) (hF : gf_okF μ 42 (μ 41 1)) : gf_Mi l E yy_Ou_endOfTurns cc_Ou_endOfTurns 8 .int (gf_rm 3 75) 81 gf_ref μ [.ref (gf_ad E 59), .ref (gf_ad E g), .ref (gf_ad E 41), .int (gf_i t)] (fun r μ' => (r = pf_VT (μ g 0) (μ g 1) (μ g 2) (μ 41 1 + gf_min t (8 - μ 41 1)) (μ 41 1) (gf_min t (8 - μ 41 1)).toNat (pf_rec (μ g 0) (μ g 1) (μ g 2) (μ 42) (μ 41 1 + gf_min t (8 - μ 41 1)) (μ 41 1).toNat) ∧ 0 ≤ r ∧ r ≤ 10) ∧ ∀ x y : Int, x ≠ 60 → μ' x y = μ x y) := by
  refine gf_mi (by decide +kernel) (Nat.le_of_ble_eq_true rfl) (by decide) (fun X Q hlx C hQ => ?_)
  subst hlx
  replace C : gf_C X E cc_Ou_endOfTurns 8 "GuardFigures$Outlook" (gf_rm 3 75) := C
  show gf_G X E Q 8 gf_φ μ 0 [(0, .ref (gf_ad E 59)), (1, .ref (gf_ad E g)), (2, .ref (gf_ad E 41)), (3, .int (gf_i t))] []
  have hmin : 0 ≤ gf_min t (8 - μ 41 1) ∧ gf_min t (8 - μ 41 1) ≤ 8 - μ 41 1 := by unfold gf_min; split <;> omega
  refine gf_aload_n C dd_Ou_endOfTurns_0 2 rfl ?_
  refine gf_getI (z := 1) C gf_cl5 fl_Ou_15 dd_Ou_endOfTurns_1 rfl rfl (show gf_is 81 41 0 5 5 by decide) (fun hv1 => ?_)
  refine gf_iload_n C dd_Ou_endOfTurns_4 3 rfl ?_
  refine gf_bipush C dd_Ou_endOfTurns_5 (by decide +kernel) ?_
  refine gf_aload_n C dd_Ou_endOfTurns_7 2 rfl ?_
  refine gf_getI (z := 1) C gf_cl5 fl_Ou_15 dd_Ou_endOfTurns_8 rfl rfl (show gf_is 81 41 0 5 5 by decide) (fun hv8 => ?_)
  refine gf_isub C dd_Ou_endOfTurns_11 ?_
  refine gf_mmin C (gf_mem 660 (by decide +kernel) (by decide +kernel)) dd_Ou_endOfTurns_12 (by omega) ⟨by decide, Nat.le_of_ble_eq_true rfl, rfl, rfl⟩ ?_
  refine gf_iadd C dd_Ou_endOfTurns_15 ?_
  refine gf_nm (fun x16 hx16 => ?_)
  refine gf_istore (lv' := [(4, .int (gf_i x16)), (0, .ref (gf_ad E 59)), (1, .ref (gf_ad E g)), (2, .ref (gf_ad E 41)), (3, .int (gf_i t))]) C dd_Ou_endOfTurns_16 (by decide) rfl ?_
  have hz2 : x16 = μ 41 1 + gf_min t (8 - μ 41 1) := hx16
  obtain ⟨VV, hVV⟩ : ∃ y, y = pf_VT (μ g 0) (μ g 1) (μ g 2) x16 (μ 41 1) := ⟨_, rfl⟩
  have hVR : ∀ (r : Nat) (s : Int), 0 ≤ s → s ≤ 10 → 0 ≤ VV r s ∧ VV r s ≤ 10 := fun r s h0 h1 => by rw [hVV]; exact pf_VT_R _ _ _ _ _ r s ⟨h0, h1⟩
  refine gf_aload_n C dd_Ou_endOfTurns_18 1 rfl ?_
  refine gf_aload_n C dd_Ou_endOfTurns_19 2 rfl ?_
  refine gf_iload C dd_Ou_endOfTurns_20 0 rfl ?_
  refine gf_callVv (st := []) (As := [.ref (gf_ad E g), .int (gf_i x16)]) C wk_Ou_71 gf_cl1 (show gf_is 81 59 0 1 2 by decide) (ct_Ou_endWithReckoned (gf_xl X) E g μ hg hg58 hG x16 (by omega)) rfl ⟨rfl, rfl, rfl, rfl⟩ (Nat.le_of_ble_eq_true rfl) rfl dd_Ou_endOfTurns_22 (fun m22 hp22 => ?_)
  obtain ⟨hp22a, hp22b⟩ := hp22
  refine gf_iload C dd_Ou_endOfTurns_25 0 rfl ?_
  refine gf_iconst C dd_Ou_endOfTurns_27 ?_
  refine gf_isub C dd_Ou_endOfTurns_28 ?_
  refine gf_nm (fun x29 hx29 => ?_)
  refine gf_istore (lv' := [(5, .int (gf_i x29)), (4, .int (gf_i x16)), (0, .ref (gf_ad E 59)), (1, .ref (gf_ad E g)), (2, .ref (gf_ad E 41)), (3, .int (gf_i t))]) C dd_Ou_endOfTurns_29 (by decide) rfl ?_
  have L31_1 : ∀ (N : Nat) (k : Int) (m : gf_M) , (μ 41 1 - 1 ≤ k ∧ k < x16 ∧ gf_tb m x16 VV (k + 1) ∧ ∀ x y : Int, x ≠ 60 → m x y = μ x y) → (k + 1).toNat < N → gf_G X E Q 8 gf_φ m 31 [(5, .int (gf_i k)), (0, .ref (gf_ad E 59)), (1, .ref (gf_ad E g)), (2, .ref (gf_ad E 41)), (3, .int (gf_i t)), (4, .int (gf_i x16))] [] := by
    intro N
    induction N with
    | zero => intro k m hinv hN; exact absurd hN (Nat.not_lt_zero _)
    | succ N ih31_1 =>
      intro k m hinv hN
      have hinv0 := hinv
      obtain ⟨hk0, hk1, hk2, hk3⟩ := hinv
      have e41 : m 41 1 = μ 41 1 := hk3 41 1 (by decide)
      refine gf_iload C dd_Ou_endOfTurns_31 0 rfl ?_
      refine gf_aload_n C dd_Ou_endOfTurns_33 3 rfl ?_
      refine gf_getI (z := 1) C gf_cl5 fl_Ou_15 dd_Ou_endOfTurns_34 rfl rfl (show gf_is 81 41 0 5 5 by decide) (fun hv34 => ?_)
      refine gf_icmp_lt 102 C dd_Ou_endOfTurns_37 (by decide) (by omega) (by omega) (fun h37 => ?_) (fun h37 => ?_)
      · skip
        have hG108 : gf_okG m g := by unfold gf_okG; rw [hk3 g 0 (by omega), hk3 g 1 (by omega), hk3 g 2 (by omega)]; exact hG
        have hkk : k = μ 41 1 - 1 := by omega
        have htbN : gf_tb m x16 VV (μ 41 1) := by have := hk2; rw [hkk, show μ 41 1 - 1 + 1 = μ 41 1 by omega] at this; exact this
        clear hk2 hk0 hk1 hkk
        refine gf_iconst C dd_Ou_endOfTurns_102 ?_
        refine gf_istore (lv' := [(5, .int (gf_i 0)), (0, .ref (gf_ad E 59)), (1, .ref (gf_ad E g)), (2, .ref (gf_ad E 41)), (3, .int (gf_i t)), (4, .int (gf_i x16))]) C dd_Ou_endOfTurns_103 (by decide) rfl ?_
        refine gf_iconst C dd_Ou_endOfTurns_105 ?_
        refine gf_istore (lv' := [(6, .int (gf_i 0)), (5, .int (gf_i 0)), (0, .ref (gf_ad E 59)), (1, .ref (gf_ad E g)), (2, .ref (gf_ad E 41)), (3, .int (gf_i t)), (4, .int (gf_i x16))]) C dd_Ou_endOfTurns_106 (by decide) rfl ?_
        have L108_2 : ∀ (N : Nat) (s k : Int) , (0 ≤ k ∧ k ≤ μ 41 1 ∧ s = pf_rec (μ g 0) (μ g 1) (μ g 2) (μ 42) x16 k.toNat) → (8 - k).toNat < N → gf_G X E Q 8 gf_φ m 108 [(5, .int (gf_i s)), (6, .int (gf_i k)), (0, .ref (gf_ad E 59)), (1, .ref (gf_ad E g)), (2, .ref (gf_ad E 41)), (3, .int (gf_i t)), (4, .int (gf_i x16))] [] := by
          intro N
          induction N with
          | zero => intro s k hinv hN; exact absurd hN (Nat.not_lt_zero _)
          | succ N ih108_2 =>
            intro s k hinv hN
            have hinv0 := hinv
            obtain ⟨hq0, hq1, hq2⟩ := hinv
            have hsR := pf_rec_R (μ g 0) (μ g 1) (μ g 2) (μ 42) x16 k.toNat
            rw [← hq2] at hsR
            refine gf_iload C dd_Ou_endOfTurns_108 1 rfl ?_
            refine gf_aload_n C dd_Ou_endOfTurns_110 4 rfl ?_
            refine gf_getI (z := 1) C gf_cl5 fl_Ou_15 dd_Ou_endOfTurns_111 rfl rfl (show gf_is 81 41 0 5 5 by decide) (fun hv111 => ?_)
            refine gf_icmp_ge 142 C dd_Ou_endOfTurns_114 (by decide) (by omega) (by omega) (fun h114 => ?_) (fun h114 => ?_)
            · skip
              refine gf_aload_n C dd_Ou_endOfTurns_142 2 rfl ?_
              refine gf_aload_n C dd_Ou_endOfTurns_143 4 rfl ?_
              refine gf_getI (z := 1) C gf_cl5 fl_Ou_15 dd_Ou_endOfTurns_144 rfl rfl (show gf_is 81 41 0 5 5 by decide) (fun hv144 => ?_)
              refine gf_iload C dd_Ou_endOfTurns_147 0 rfl ?_
              refine gf_callVl (st := []) (As := [.int (gf_i (m 41 1)), .int (gf_i s)]) C wk_Ou_44 gf_cl1 (show gf_is 81 59 0 1 2 by decide) (ct_Ou_valueOf (gf_xl X) E (m 41 1) s m (by omega) (by omega)) rfl ⟨rfl, rfl, rfl, rfl⟩ (Nat.le_of_ble_eq_true rfl) rfl dd_Ou_endOfTurns_149 (fun r149 m149 hR149 hp149 => ?_)
              have hr149 := hp149.1
              refine gf_pm hp149.2 ?_
              have hve : r149 = VV (x16 - μ 41 1).toNat s := by rw [hr149, e41, htbN (μ 41 1) s (by omega) (by omega) (by omega) (by omega)]
              have hvr := hVR (x16 - μ 41 1).toNat s (by omega) (by omega)
              refine gf_gl2i C dd_Ou_endOfTurns_152 ?_
              refine gf_iret C hQ dd_Ou_endOfTurns_153 (by omega) ?_
              refine ⟨⟨?_, by omega, by omega⟩, hk3⟩
              rw [hve, hVV, hq2, show k = μ 41 1 by omega, ← hz2, show (x16 - μ 41 1).toNat = (gf_min t (8 - μ 41 1)).toNat by omega]
            · skip
              refine gf_aload_n C dd_Ou_endOfTurns_117 3 rfl ?_
              refine gf_iload C dd_Ou_endOfTurns_118 0 rfl ?_
              refine gf_iload C dd_Ou_endOfTurns_120 1 rfl ?_
              refine gf_aload_n C dd_Ou_endOfTurns_122 4 rfl ?_
              refine gf_getA (r := 42) C gf_cl5 fl_Ou_54 dd_Ou_endOfTurns_123 rfl (show gf_is 81 41 0 5 5 by decide) (by decide) (by decide) ?_
              refine gf_iload C dd_Ou_endOfTurns_126 1 rfl ?_
              have hfk := hF k (by omega) (by omega)
              have efk : m 42 k = μ 42 k := hk3 42 k (by decide)
              refine gf_iald C dd_Ou_endOfTurns_128 (show gf_is 81 42 1 0 8 by decide) (by omega) (fun hv128 => ?_)
              refine gf_iload C dd_Ou_endOfTurns_129 6 rfl ?_
              refine gf_callVi (st := []) (As := [.int (gf_i s), .int (gf_i k), .int (gf_i (m 42 k)), .int (gf_i x16)]) C wk_Ou_48 gf_cl0 hg (ct_Gd_follow (gf_xl X) E g s k (m 42 k) x16 m hg (hG108) (by omega) (by omega) (by omega)) rfl ⟨rfl, rfl, rfl, rfl⟩ (Nat.le_of_ble_eq_true rfl) rfl dd_Ou_endOfTurns_131 (fun r131 m131 hR131 hp131 => ?_)
              have hr131 := hp131.1
              refine gf_pm hp131.2 ?_
              refine gf_istore (lv' := [(5, .int (gf_i r131)), (6, .int (gf_i k)), (0, .ref (gf_ad E 59)), (1, .ref (gf_ad E g)), (2, .ref (gf_ad E 41)), (3, .int (gf_i t)), (4, .int (gf_i x16))]) C dd_Ou_endOfTurns_134 (by decide) rfl ?_
              obtain ⟨x136, hx136⟩ : ∃ y : Int, y = k + 1 := ⟨_, rfl⟩
              refine gf_iinc (q := 1) (v := x136) (lv' := [(6, .int (gf_i x136)), (5, .int (gf_i r131)), (0, .ref (gf_ad E 59)), (1, .ref (gf_ad E g)), (2, .ref (gf_ad E 41)), (3, .int (gf_i t)), (4, .int (gf_i x16))]) C dd_Ou_endOfTurns_136 rfl hx136 (by decide) rfl ?_
              refine gf_goto 108 C dd_Ou_endOfTurns_139 (by decide) ?_
              refine gf_lsub [1, 0, 2, 3, 4, 5, 6] rfl ?_
              exact ih108_2 r131 x136 (by
                        refine ⟨by omega, by omega, ?_⟩
                        rw [hr131.1, hx136, show (k + 1).toNat = k.toNat + 1 by omega, hk3 g 0 (by omega), hk3 g 1 (by omega), hk3 g 2 (by omega), hq2, hk3 42 k (by decide)]
                        show _ = pf_fol _ _ _ _ ((k.toNat : Nat) : Int) (μ 42 ((k.toNat : Nat) : Int)) x16
                        rw [show ((k.toNat : Nat) : Int) = k by omega]) (by omega)
        refine gf_lsub [1, 0, 2, 3, 4, 5, 6] rfl ?_
        exact L108_2 _ 0 0 (⟨by omega, by omega, rfl⟩) (Nat.lt_succ_self _)
      · skip
        refine gf_iload C dd_Ou_endOfTurns_40 0 rfl ?_
        refine gf_aload_n C dd_Ou_endOfTurns_42 3 rfl ?_
        refine gf_getI (z := 1) C gf_cl5 fl_Ou_15 dd_Ou_endOfTurns_43 rfl rfl (show gf_is 81 41 0 5 5 by decide) (fun hv43 => ?_)
        refine gf_isub C dd_Ou_endOfTurns_46 ?_
        refine gf_iconst C dd_Ou_endOfTurns_47 ?_
        refine gf_irem C dd_Ou_endOfTurns_48 (by omega) ?_
        refine gf_if_ne 56 C dd_Ou_endOfTurns_49 (by decide) (by omega) (fun h49 => ?_) (fun h49 => ?_)
        · skip
          refine gf_iconst C dd_Ou_endOfTurns_56 ?_
          refine gf_istore (lv' := [(6, .int (gf_i 0)), (5, .int (gf_i k)), (0, .ref (gf_ad E 59)), (1, .ref (gf_ad E g)), (2, .ref (gf_ad E 41)), (3, .int (gf_i t)), (4, .int (gf_i x16))]) C dd_Ou_endOfTurns_57 (by decide) rfl ?_
          have hmuch : (0 : Int) = if (k - μ 41 1) % 2 = 0 then 1 else 0 := by first | (rw [if_pos (by omega)]; done) | (rw [if_neg (by omega)]; done)
          refine gf_iconst C dd_Ou_endOfTurns_59 ?_
          refine gf_istore (lv' := [(7, .int (gf_i 0)), (6, .int (gf_i 0)), (5, .int (gf_i k)), (0, .ref (gf_ad E 59)), (1, .ref (gf_ad E g)), (2, .ref (gf_ad E 41)), (3, .int (gf_i t)), (4, .int (gf_i x16))]) C dd_Ou_endOfTurns_60 (by decide) rfl ?_
          have L62_3 : ∀ (N : Nat) (s : Int) (m' : gf_M) , (0 ≤ s ∧ s ≤ 11 ∧ gf_tb m' x16 VV (k + 1) ∧ gf_tr m' x16 VV k s ∧ ∀ x y : Int, x ≠ 60 → m' x y = μ x y) → (11 - s).toNat < N → gf_G X E Q 8 gf_φ m' 62 [(7, .int (gf_i s)), (0, .ref (gf_ad E 59)), (1, .ref (gf_ad E g)), (2, .ref (gf_ad E 41)), (3, .int (gf_i t)), (4, .int (gf_i x16)), (5, .int (gf_i k)), (6, .int (gf_i 0))] [] := by
            intro N
            induction N with
            | zero => intro s m' hinv hN; exact absurd hN (Nat.not_lt_zero _)
            | succ N ih62_3 =>
              intro s m' hinv hN
              have hinv0 := hinv
              obtain ⟨hs0, hs1, htb, htr, ef62⟩ := hinv
              have hG62 : gf_okG m' g := by unfold gf_okG; rw [ef62 g 0 (by omega), ef62 g 1 (by omega), ef62 g 2 (by omega)]; exact hG
              have hvb : ∀ y : Int, 0 ≤ y → y ≤ 10 → 0 ≤ m' 60 ((k + 1) * 11 + y) ∧ m' 60 ((k + 1) * 11 + y) ≤ 10 := fun y h0 h1 => by rw [htb (k + 1) y (by omega) (by omega) h0 h1]; exact hVR _ y h0 h1
              refine gf_iload C dd_Ou_endOfTurns_62 0 rfl ?_
              refine gf_bipush C dd_Ou_endOfTurns_64 (by decide +kernel) ?_
              refine gf_icmp_ge 96 C dd_Ou_endOfTurns_66 (by decide) (by omega) (by omega) (fun h66 => ?_) (fun h66 => ?_)
              · skip
                obtain ⟨x96, hx96⟩ : ∃ y : Int, y = k + (-1) := ⟨_, rfl⟩
                refine gf_iinc (q := 6) (v := x96) (lv' := [(5, .int (gf_i x96)), (7, .int (gf_i s)), (0, .ref (gf_ad E 59)), (1, .ref (gf_ad E g)), (2, .ref (gf_ad E 41)), (3, .int (gf_i t)), (4, .int (gf_i x16)), (6, .int (gf_i 0))]) C dd_Ou_endOfTurns_96 rfl hx96 (by decide) rfl ?_
                refine gf_goto 31 C dd_Ou_endOfTurns_99 (by decide) ?_
                refine gf_lsub [0, 2, 3, 4, 5, 6] rfl ?_
                exact ih31_1 x96 m' (⟨by omega, by omega, by rw [hx96, show k + -1 + 1 = k by omega]; exact gf_tb_row htb (by rw [show (11 : Int) = s by omega]; exact htr), ef62⟩) (by omega)
              · skip
                refine gf_aload_n C dd_Ou_endOfTurns_69 1 rfl ?_
                refine gf_iload C dd_Ou_endOfTurns_70 6 rfl ?_
                refine gf_iload C dd_Ou_endOfTurns_72 0 rfl ?_
                refine gf_aload_n C dd_Ou_endOfTurns_74 1 rfl ?_
                refine gf_aload_n C dd_Ou_endOfTurns_75 2 rfl ?_
                refine gf_iload C dd_Ou_endOfTurns_76 6 rfl ?_
                refine gf_iload C dd_Ou_endOfTurns_78 0 rfl ?_
                refine gf_iload C dd_Ou_endOfTurns_80 5 rfl ?_
                refine gf_iload C dd_Ou_endOfTurns_82 7 rfl ?_
                refine gf_callVl (st := [.int (gf_i s), .int (gf_i k), .ref (gf_ad E 59)]) (As := [.ref (gf_ad E g), .int (gf_i k), .int (gf_i s), .int (gf_i x16), .int (gf_i 0)]) C wk_Ou_75 gf_cl1 (show gf_is 81 59 0 1 2 by decide) (ct_Ou_afterBestFigure (gf_xl X) E g m' hg hg58 hG62 k s x16 0 (by omega) (by omega) (by omega) hvb) rfl ⟨rfl, rfl, rfl, rfl⟩ (Nat.le_of_ble_eq_true rfl) rfl dd_Ou_endOfTurns_84 (fun r84 m84 hR84 hp84 => ?_)
                have hr84 := hp84.1
                refine gf_pm hp84.2 ?_
                refine gf_callVv (st := []) (As := [.int (gf_i k), .int (gf_i s), .long (gf_l r84)]) C wk_Ou_37 gf_cl1 (show gf_is 81 59 0 1 2 by decide) (ct_Ou_keepValue (gf_xl X) E k s r84 m' (by omega) (by omega) (by omega)) rfl ⟨rfl, rfl, rfl, rfl⟩ (Nat.le_of_ble_eq_true rfl) rfl dd_Ou_endOfTurns_87 (fun m87 hp87 => ?_)
                obtain ⟨x90, hx90⟩ : ∃ y : Int, y = s + 1 := ⟨_, rfl⟩
                refine gf_iinc (q := 0) (v := x90) (lv' := [(7, .int (gf_i x90)), (0, .ref (gf_ad E 59)), (1, .ref (gf_ad E g)), (2, .ref (gf_ad E 41)), (3, .int (gf_i t)), (4, .int (gf_i x16)), (5, .int (gf_i k)), (6, .int (gf_i 0))]) C dd_Ou_endOfTurns_90 rfl hx90 (by decide) rfl ?_
                refine gf_goto 62 C dd_Ou_endOfTurns_93 (by decide) ?_
                refine gf_lsub [0, 1, 2, 3, 4, 5, 6, 7] rfl ?_
                exact ih62_3 x90 m87 (by
                            have hbe : r84 = VV (x16 - k).toNat s := by
                              rw [hr84.1, ef62 g 0 (by omega), ef62 g 1 (by omega), ef62 g 2 (by omega), show (x16 - k).toNat = (x16 - 1 - k).toNat + 1 by omega, hVV]
                              show _ = pf_bst (if (x16 - 1 - ((x16 - 1 - k).toNat : Nat) - μ 41 1) % 2 = 0 then 1 else 0) (fun f => pf_dp _ _ (x16 - 1 - k).toNat (pf_fol _ _ _ s (x16 - 1 - ((x16 - 1 - k).toNat : Nat)) f x16)) 9
                              rw [show (x16 - 1 - ((x16 - 1 - k).toNat : Nat) : Int) = k by omega, ← hmuch]
                              refine pf_bst_congr 9 (fun f h0 h1 => ?_)
                              have hz := pf_fol_R (μ g 0) (μ g 1) (μ g 2) s k f x16
                              show m' 60 ((k + 1) * 11 + pf_fol (μ g 0) (μ g 1) (μ g 2) s k f x16) = _
                              rw [htb (k + 1) _ (by omega) (by omega) hz.1 hz.2, hVV, show (x16 - (k + 1)).toNat = (x16 - 1 - k).toNat by omega]
                              rfl
                            have hkp := gf_tb_keep (by omega) hp87 htb htr hbe
                            exact ⟨by omega, by omega, hkp.1, by rw [hx90]; exact hkp.2, fun x y h => by rw [hp87, gf_up_k h]; exact ef62 x y h⟩) (by omega)
          refine gf_lsub [0, 3, 4, 5, 6, 7, 2, 1] rfl ?_
          exact L62_3 _ 0 m (⟨by omega, by omega, hk2, fun y h0 h1 => by omega, hk3⟩) (Nat.lt_succ_self _)
        · skip
          refine gf_iconst C dd_Ou_endOfTurns_52 ?_
          refine gf_goto 57 C dd_Ou_endOfTurns_53 (by decide) ?_
          refine gf_istore (lv' := [(6, .int (gf_i 1)), (5, .int (gf_i k)), (0, .ref (gf_ad E 59)), (1, .ref (gf_ad E g)), (2, .ref (gf_ad E 41)), (3, .int (gf_i t)), (4, .int (gf_i x16))]) C dd_Ou_endOfTurns_57 (by decide) rfl ?_
          have hmuch : (1 : Int) = if (k - μ 41 1) % 2 = 0 then 1 else 0 := by first | (rw [if_pos (by omega)]; done) | (rw [if_neg (by omega)]; done)
          refine gf_iconst C dd_Ou_endOfTurns_59 ?_
          refine gf_istore (lv' := [(7, .int (gf_i 0)), (6, .int (gf_i 1)), (5, .int (gf_i k)), (0, .ref (gf_ad E 59)), (1, .ref (gf_ad E g)), (2, .ref (gf_ad E 41)), (3, .int (gf_i t)), (4, .int (gf_i x16))]) C dd_Ou_endOfTurns_60 (by decide) rfl ?_
          have L62_4 : ∀ (N : Nat) (s : Int) (m' : gf_M) , (0 ≤ s ∧ s ≤ 11 ∧ gf_tb m' x16 VV (k + 1) ∧ gf_tr m' x16 VV k s ∧ ∀ x y : Int, x ≠ 60 → m' x y = μ x y) → (11 - s).toNat < N → gf_G X E Q 8 gf_φ m' 62 [(7, .int (gf_i s)), (0, .ref (gf_ad E 59)), (1, .ref (gf_ad E g)), (2, .ref (gf_ad E 41)), (3, .int (gf_i t)), (4, .int (gf_i x16)), (5, .int (gf_i k)), (6, .int (gf_i 1))] [] := by
            intro N
            induction N with
            | zero => intro s m' hinv hN; exact absurd hN (Nat.not_lt_zero _)
            | succ N ih62_4 =>
              intro s m' hinv hN
              have hinv0 := hinv
              obtain ⟨hs0, hs1, htb, htr, ef62⟩ := hinv
              have hG62 : gf_okG m' g := by unfold gf_okG; rw [ef62 g 0 (by omega), ef62 g 1 (by omega), ef62 g 2 (by omega)]; exact hG
              have hvb : ∀ y : Int, 0 ≤ y → y ≤ 10 → 0 ≤ m' 60 ((k + 1) * 11 + y) ∧ m' 60 ((k + 1) * 11 + y) ≤ 10 := fun y h0 h1 => by rw [htb (k + 1) y (by omega) (by omega) h0 h1]; exact hVR _ y h0 h1
              refine gf_iload C dd_Ou_endOfTurns_62 0 rfl ?_
              refine gf_bipush C dd_Ou_endOfTurns_64 (by decide +kernel) ?_
              refine gf_icmp_ge 96 C dd_Ou_endOfTurns_66 (by decide) (by omega) (by omega) (fun h66 => ?_) (fun h66 => ?_)
              · skip
                obtain ⟨x96, hx96⟩ : ∃ y : Int, y = k + (-1) := ⟨_, rfl⟩
                refine gf_iinc (q := 6) (v := x96) (lv' := [(5, .int (gf_i x96)), (7, .int (gf_i s)), (0, .ref (gf_ad E 59)), (1, .ref (gf_ad E g)), (2, .ref (gf_ad E 41)), (3, .int (gf_i t)), (4, .int (gf_i x16)), (6, .int (gf_i 1))]) C dd_Ou_endOfTurns_96 rfl hx96 (by decide) rfl ?_
                refine gf_goto 31 C dd_Ou_endOfTurns_99 (by decide) ?_
                refine gf_lsub [0, 2, 3, 4, 5, 6] rfl ?_
                exact ih31_1 x96 m' (⟨by omega, by omega, by rw [hx96, show k + -1 + 1 = k by omega]; exact gf_tb_row htb (by rw [show (11 : Int) = s by omega]; exact htr), ef62⟩) (by omega)
              · skip
                refine gf_aload_n C dd_Ou_endOfTurns_69 1 rfl ?_
                refine gf_iload C dd_Ou_endOfTurns_70 6 rfl ?_
                refine gf_iload C dd_Ou_endOfTurns_72 0 rfl ?_
                refine gf_aload_n C dd_Ou_endOfTurns_74 1 rfl ?_
                refine gf_aload_n C dd_Ou_endOfTurns_75 2 rfl ?_
                refine gf_iload C dd_Ou_endOfTurns_76 6 rfl ?_
                refine gf_iload C dd_Ou_endOfTurns_78 0 rfl ?_
                refine gf_iload C dd_Ou_endOfTurns_80 5 rfl ?_
                refine gf_iload C dd_Ou_endOfTurns_82 7 rfl ?_
                refine gf_callVl (st := [.int (gf_i s), .int (gf_i k), .ref (gf_ad E 59)]) (As := [.ref (gf_ad E g), .int (gf_i k), .int (gf_i s), .int (gf_i x16), .int (gf_i 1)]) C wk_Ou_75 gf_cl1 (show gf_is 81 59 0 1 2 by decide) (ct_Ou_afterBestFigure (gf_xl X) E g m' hg hg58 hG62 k s x16 1 (by omega) (by omega) (by omega) hvb) rfl ⟨rfl, rfl, rfl, rfl⟩ (Nat.le_of_ble_eq_true rfl) rfl dd_Ou_endOfTurns_84 (fun r84 m84 hR84 hp84 => ?_)
                have hr84 := hp84.1
                refine gf_pm hp84.2 ?_
                refine gf_callVv (st := []) (As := [.int (gf_i k), .int (gf_i s), .long (gf_l r84)]) C wk_Ou_37 gf_cl1 (show gf_is 81 59 0 1 2 by decide) (ct_Ou_keepValue (gf_xl X) E k s r84 m' (by omega) (by omega) (by omega)) rfl ⟨rfl, rfl, rfl, rfl⟩ (Nat.le_of_ble_eq_true rfl) rfl dd_Ou_endOfTurns_87 (fun m87 hp87 => ?_)
                obtain ⟨x90, hx90⟩ : ∃ y : Int, y = s + 1 := ⟨_, rfl⟩
                refine gf_iinc (q := 0) (v := x90) (lv' := [(7, .int (gf_i x90)), (0, .ref (gf_ad E 59)), (1, .ref (gf_ad E g)), (2, .ref (gf_ad E 41)), (3, .int (gf_i t)), (4, .int (gf_i x16)), (5, .int (gf_i k)), (6, .int (gf_i 1))]) C dd_Ou_endOfTurns_90 rfl hx90 (by decide) rfl ?_
                refine gf_goto 62 C dd_Ou_endOfTurns_93 (by decide) ?_
                refine gf_lsub [0, 1, 2, 3, 4, 5, 6, 7] rfl ?_
                exact ih62_4 x90 m87 (by
                            have hbe : r84 = VV (x16 - k).toNat s := by
                              rw [hr84.1, ef62 g 0 (by omega), ef62 g 1 (by omega), ef62 g 2 (by omega), show (x16 - k).toNat = (x16 - 1 - k).toNat + 1 by omega, hVV]
                              show _ = pf_bst (if (x16 - 1 - ((x16 - 1 - k).toNat : Nat) - μ 41 1) % 2 = 0 then 1 else 0) (fun f => pf_dp _ _ (x16 - 1 - k).toNat (pf_fol _ _ _ s (x16 - 1 - ((x16 - 1 - k).toNat : Nat)) f x16)) 9
                              rw [show (x16 - 1 - ((x16 - 1 - k).toNat : Nat) : Int) = k by omega, ← hmuch]
                              refine pf_bst_congr 9 (fun f h0 h1 => ?_)
                              have hz := pf_fol_R (μ g 0) (μ g 1) (μ g 2) s k f x16
                              show m' 60 ((k + 1) * 11 + pf_fol (μ g 0) (μ g 1) (μ g 2) s k f x16) = _
                              rw [htb (k + 1) _ (by omega) (by omega) hz.1 hz.2, hVV, show (x16 - (k + 1)).toNat = (x16 - 1 - k).toNat by omega]
                              rfl
                            have hkp := gf_tb_keep (by omega) hp87 htb htr hbe
                            exact ⟨by omega, by omega, hkp.1, by rw [hx90]; exact hkp.2, fun x y h => by rw [hp87, gf_up_k h]; exact ef62 x y h⟩) (by omega)
          refine gf_lsub [0, 3, 4, 5, 6, 7, 2, 1] rfl ?_
          exact L62_4 _ 0 m (⟨by omega, by omega, hk2, fun y h0 h1 => by omega, hk3⟩) (Nat.lt_succ_self _)
  refine gf_lsub [0, 2, 3, 4, 5, 1] rfl ?_
  exact L31_1 _ x29 m22 (⟨by omega, by omega, fun j y h0 h1 h2 h3 => by rw [show j = x16 by omega, hp22a y h2 h3, show (x16 - x16).toNat = 0 by omega, hVV]; rfl, hp22b⟩) (Nat.lt_succ_self _)

theorem dd_Ou_overCopies_0 : decode cc_Ou_overCopies 0 = .ok (.aload_n 2, 1) := by decide +kernel
theorem dd_Ou_overCopies_1 : decode cc_Ou_overCopies 1 = .ok (.getfield 15, 3) := by decide +kernel
theorem dd_Ou_overCopies_4 : decode cc_Ou_overCopies 4 = .ok (.istore 4, 2) := by decide +kernel
theorem dd_Ou_overCopies_6 : decode cc_Ou_overCopies 6 = .ok (.iload 4, 2) := by decide +kernel
theorem dd_Ou_overCopies_8 : decode cc_Ou_overCopies 8 = .ok (.iconst 1, 1) := by decide +kernel
theorem dd_Ou_overCopies_9 : decode cc_Ou_overCopies 9 = .ok (.isub, 1) := by decide +kernel
theorem dd_Ou_overCopies_10 : decode cc_Ou_overCopies 10 = .ok (.istore 5, 2) := by decide +kernel
theorem dd_Ou_overCopies_12 : decode cc_Ou_overCopies 12 = .ok (.iload 5, 2) := by decide +kernel
theorem dd_Ou_overCopies_14 : decode cc_Ou_overCopies 14 = .ok (.ifCond .lt 109, 3) := by decide +kernel
theorem dd_Ou_overCopies_17 : decode cc_Ou_overCopies 17 = .ok (.aload_n 2, 1) := by decide +kernel
theorem dd_Ou_overCopies_18 : decode cc_Ou_overCopies 18 = .ok (.getfield 54, 3) := by decide +kernel
theorem dd_Ou_overCopies_21 : decode cc_Ou_overCopies 21 = .ok (.iload 5, 2) := by decide +kernel
theorem dd_Ou_overCopies_23 : decode cc_Ou_overCopies 23 = .ok (.iaload, 1) := by decide +kernel
theorem dd_Ou_overCopies_24 : decode cc_Ou_overCopies 24 = .ok (.istore 6, 2) := by decide +kernel
theorem dd_Ou_overCopies_26 : decode cc_Ou_overCopies 26 = .ok (.iload 6, 2) := by decide +kernel
theorem dd_Ou_overCopies_28 : decode cc_Ou_overCopies 28 = .ok (.iconst 1, 1) := by decide +kernel
theorem dd_Ou_overCopies_29 : decode cc_Ou_overCopies 29 = .ok (.iadd, 1) := by decide +kernel
theorem dd_Ou_overCopies_30 : decode cc_Ou_overCopies 30 = .ok (.bipush 10, 2) := by decide +kernel
theorem dd_Ou_overCopies_32 : decode cc_Ou_overCopies 32 = .ok (.irem, 1) := by decide +kernel
theorem dd_Ou_overCopies_33 : decode cc_Ou_overCopies 33 = .ok (.istore 7, 2) := by decide +kernel
theorem dd_Ou_overCopies_35 : decode cc_Ou_overCopies 35 = .ok (.iconst 0, 1) := by decide +kernel
theorem dd_Ou_overCopies_36 : decode cc_Ou_overCopies 36 = .ok (.istore 8, 2) := by decide +kernel
theorem dd_Ou_overCopies_38 : decode cc_Ou_overCopies 38 = .ok (.iload 8, 2) := by decide +kernel
theorem dd_Ou_overCopies_40 : decode cc_Ou_overCopies 40 = .ok (.bipush 11, 2) := by decide +kernel
theorem dd_Ou_overCopies_42 : decode cc_Ou_overCopies 42 = .ok (.if_icmp .ge 75, 3) := by decide +kernel
theorem dd_Ou_overCopies_45 : decode cc_Ou_overCopies 45 = .ok (.aload_n 0, 1) := by decide +kernel
theorem dd_Ou_overCopies_46 : decode cc_Ou_overCopies 46 = .ok (.iload 5, 2) := by decide +kernel
theorem dd_Ou_overCopies_48 : decode cc_Ou_overCopies 48 = .ok (.iconst 1, 1) := by decide +kernel
theorem dd_Ou_overCopies_49 : decode cc_Ou_overCopies 49 = .ok (.iadd, 1) := by decide +kernel
theorem dd_Ou_overCopies_50 : decode cc_Ou_overCopies 50 = .ok (.aload_n 1, 1) := by decide +kernel
theorem dd_Ou_overCopies_51 : decode cc_Ou_overCopies 51 = .ok (.iload 8, 2) := by decide +kernel
theorem dd_Ou_overCopies_53 : decode cc_Ou_overCopies 53 = .ok (.iload 5, 2) := by decide +kernel
theorem dd_Ou_overCopies_55 : decode cc_Ou_overCopies 55 = .ok (.iload 7, 2) := by decide +kernel
theorem dd_Ou_overCopies_57 : decode cc_Ou_overCopies 57 = .ok (.iload 4, 2) := by decide +kernel
theorem dd_Ou_overCopies_59 : decode cc_Ou_overCopies 59 = .ok (.invokevirtual 48, 3) := by decide +kernel
theorem dd_Ou_overCopies_62 : decode cc_Ou_overCopies 62 = .ok (.invokevirtual 44, 3) := by decide +kernel
theorem dd_Ou_overCopies_65 : decode cc_Ou_overCopies 65 = .ok (.lstore 9, 2) := by decide +kernel
theorem dd_Ou_overCopies_67 : decode cc_Ou_overCopies 67 = .ok (.aload_n 0, 1) := by decide +kernel
theorem dd_Ou_overCopies_68 : decode cc_Ou_overCopies 68 = .ok (.iload 5, 2) := by decide +kernel
theorem dd_Ou_overCopies_70 : decode cc_Ou_overCopies 70 = .ok (.iconst 1, 1) := by decide +kernel
theorem dd_Ou_overCopies_71 : decode cc_Ou_overCopies 71 = .ok (.iadd, 1) := by decide +kernel
theorem dd_Ou_overCopies_72 : decode cc_Ou_overCopies 72 = .ok (.aload_n 1, 1) := by decide +kernel
theorem dd_Ou_overCopies_73 : decode cc_Ou_overCopies 73 = .ok (.iload 8, 2) := by decide +kernel
theorem dd_Ou_overCopies_75 : decode cc_Ou_overCopies 75 = .ok (.iload 5, 2) := by decide +kernel
theorem dd_Ou_overCopies_77 : decode cc_Ou_overCopies 77 = .ok (.iload 6, 2) := by decide +kernel
theorem dd_Ou_overCopies_79 : decode cc_Ou_overCopies 79 = .ok (.iload 4, 2) := by decide +kernel
theorem dd_Ou_overCopies_81 : decode cc_Ou_overCopies 81 = .ok (.invokevirtual 48, 3) := by decide +kernel
theorem dd_Ou_overCopies_84 : decode cc_Ou_overCopies 84 = .ok (.invokevirtual 44, 3) := by decide +kernel
theorem dd_Ou_overCopies_87 : decode cc_Ou_overCopies 87 = .ok (.lstore 11, 2) := by decide +kernel
theorem dd_Ou_overCopies_89 : decode cc_Ou_overCopies 89 = .ok (.aload_n 0, 1) := by decide +kernel
theorem dd_Ou_overCopies_90 : decode cc_Ou_overCopies 90 = .ok (.iload 5, 2) := by decide +kernel
theorem dd_Ou_overCopies_92 : decode cc_Ou_overCopies 92 = .ok (.iload 8, 2) := by decide +kernel
theorem dd_Ou_overCopies_94 : decode cc_Ou_overCopies 94 = .ok (.iload_n 3, 1) := by decide +kernel
theorem dd_Ou_overCopies_95 : decode cc_Ou_overCopies 95 = .ok (.i2l, 1) := by decide +kernel
theorem dd_Ou_overCopies_96 : decode cc_Ou_overCopies 96 = .ok (.lload 9, 2) := by decide +kernel
theorem dd_Ou_overCopies_98 : decode cc_Ou_overCopies 98 = .ok (.lmul, 1) := by decide +kernel
theorem dd_Ou_overCopies_99 : decode cc_Ou_overCopies 99 = .ok (.bipush 12, 2) := by decide +kernel
theorem dd_Ou_overCopies_101 : decode cc_Ou_overCopies 101 = .ok (.iload_n 3, 1) := by decide +kernel
theorem dd_Ou_overCopies_102 : decode cc_Ou_overCopies 102 = .ok (.isub, 1) := by decide +kernel
theorem dd_Ou_overCopies_103 : decode cc_Ou_overCopies 103 = .ok (.i2l, 1) := by decide +kernel
theorem dd_Ou_overCopies_104 : decode cc_Ou_overCopies 104 = .ok (.lload 11, 2) := by decide +kernel
theorem dd_Ou_overCopies_106 : decode cc_Ou_overCopies 106 = .ok (.lmul, 1) := by decide +kernel
theorem dd_Ou_overCopies_107 : decode cc_Ou_overCopies 107 = .ok (.ladd, 1) := by decide +kernel
theorem dd_Ou_overCopies_108 : decode cc_Ou_overCopies 108 = .ok (.invokevirtual 37, 3) := by decide +kernel
theorem dd_Ou_overCopies_111 : decode cc_Ou_overCopies 111 = .ok (.iinc 8 1, 3) := by decide +kernel
theorem dd_Ou_overCopies_114 : decode cc_Ou_overCopies 114 = .ok (.goto (-76), 3) := by decide +kernel
theorem dd_Ou_overCopies_117 : decode cc_Ou_overCopies 117 = .ok (.iinc 5 (-1), 3) := by decide +kernel
theorem dd_Ou_overCopies_120 : decode cc_Ou_overCopies 120 = .ok (.goto (-108), 3) := by decide +kernel
theorem dd_Ou_overCopies_123 : decode cc_Ou_overCopies 123 = .ok (.aload_n 0, 1) := by decide +kernel
theorem dd_Ou_overCopies_124 : decode cc_Ou_overCopies 124 = .ok (.iconst 0, 1) := by decide +kernel
theorem dd_Ou_overCopies_125 : decode cc_Ou_overCopies 125 = .ok (.iconst 0, 1) := by decide +kernel
theorem dd_Ou_overCopies_126 : decode cc_Ou_overCopies 126 = .ok (.invokevirtual 44, 3) := by decide +kernel
theorem dd_Ou_overCopies_129 : decode cc_Ou_overCopies 129 = .ok (.lreturn, 1) := by decide +kernel
set_option maxRecDepth 100000 in
set_option maxHeartbeats 4000000 in
theorem ct_Ou_overCopies (l : Launch) (E : gf_E) (g : Int) (μ : gf_M) (hg : gf_oGd g) (hg58 : g ≤ 58) (hG : gf_okG μ g) (p : Int) (e : Int → Int) (hp : 0 ≤ p ∧ p ≤ 12) (he : ∀ s : Int, 0 ≤ s → s ≤ 10 → 0 ≤ e s ∧ e s ≤ 10) (hs : 0 ≤ μ 41 1 ∧ μ 41 1 ≤ 8) (hF : gf_okF μ 42 (μ 41 1)) (hrow : ∀ s : Int, 0 ≤ s → s ≤ 10 → μ 60 (μ 41 1 * 11 + s) = e s) : gf_Ml l E yy_Ou_overCopies cc_Ou_overCopies 13 (gf_rm 2 46) 81 gf_ref μ [.ref (gf_ad E 59), .ref (gf_ad E g), .ref (gf_ad E 41), .int (gf_i p)] (fun r μ' => (r = pf_VO (μ g 0) (μ g 1) (μ g 2) (μ 41 1) p (μ 42) e (μ 41 1).toNat 0 ∧ 0 ≤ r ∧ r ≤ 4299816960) ∧ ∀ x y : Int, x ≠ 60 → μ' x y = μ x y) := by
  refine gf_ml (by decide +kernel) (Nat.le_of_ble_eq_true rfl) (by decide) (fun X Q hlx C hQ => ?_)
  subst hlx
  replace C : gf_C X E cc_Ou_overCopies 13 "GuardFigures$Outlook" (gf_rm 2 46) := C
  show gf_G X E Q 13 gf_φ μ 0 [(0, .ref (gf_ad E 59)), (1, .ref (gf_ad E g)), (2, .ref (gf_ad E 41)), (3, .int (gf_i p))] []
  obtain ⟨VV, hVV⟩ : ∃ y, y = pf_VO (μ g 0) (μ g 1) (μ g 2) (μ 41 1) p (μ 42) e := ⟨_, rfl⟩
  have hVR : ∀ (r : Nat) (s : Int), r ≤ 8 → 0 ≤ s → s ≤ 10 → 0 ≤ VV r s ∧ VV r s ≤ 4299816960 := fun r s hr h0 h1 => by
    have h2 := pf_VO_R (K := μ g 0) (F := μ g 1) (S := μ g 2) (n := μ 41 1) (x := μ 42) hp he r s ⟨h0, h1⟩
    have h3 := pf_12_8 hr
    rw [hVV]; omega
  refine gf_aload_n C dd_Ou_overCopies_0 2 rfl ?_
  refine gf_getI (z := 1) C gf_cl5 fl_Ou_15 dd_Ou_overCopies_1 rfl rfl (show gf_is 81 41 0 5 5 by decide) (fun hv1 => ?_)
  refine gf_nm (fun x4 hx4 => ?_)
  refine gf_istore (lv' := [(4, .int (gf_i x4)), (0, .ref (gf_ad E 59)), (1, .ref (gf_ad E g)), (2, .ref (gf_ad E 41)), (3, .int (gf_i p))]) C dd_Ou_overCopies_4 (by decide) rfl ?_
  refine gf_iload C dd_Ou_overCopies_6 0 rfl ?_
  refine gf_iconst C dd_Ou_overCopies_8 ?_
  refine gf_isub C dd_Ou_overCopies_9 ?_
  refine gf_nm (fun x10 hx10 => ?_)
  refine gf_istore (lv' := [(5, .int (gf_i x10)), (4, .int (gf_i x4)), (0, .ref (gf_ad E 59)), (1, .ref (gf_ad E g)), (2, .ref (gf_ad E 41)), (3, .int (gf_i p))]) C dd_Ou_overCopies_10 (by decide) rfl ?_
  have L12_1 : ∀ (N : Nat) (k : Int) (m : gf_M) , (-1 ≤ k ∧ k < μ 41 1 ∧ gf_tb m (μ 41 1) VV (k + 1) ∧ ∀ x y : Int, x ≠ 60 → m x y = μ x y) → (k + 1).toNat < N → gf_G X E Q 13 gf_φ m 12 [(5, .int (gf_i k)), (0, .ref (gf_ad E 59)), (1, .ref (gf_ad E g)), (2, .ref (gf_ad E 41)), (3, .int (gf_i p)), (4, .int (gf_i x4))] [] := by
    intro N
    induction N with
    | zero => intro k m hinv hN; exact absurd hN (Nat.not_lt_zero _)
    | succ N ih12_1 =>
      intro k m hinv hN
      have hinv0 := hinv
      obtain ⟨hk0, hk1, hk2, hk3⟩ := hinv
      refine gf_iload C dd_Ou_overCopies_12 0 rfl ?_
      refine gf_if_lt 123 C dd_Ou_overCopies_14 (by decide) (by omega) (fun h14 => ?_) (fun h14 => ?_)
      · skip
        refine gf_aload_n C dd_Ou_overCopies_123 1 rfl ?_
        refine gf_iconst C dd_Ou_overCopies_124 ?_
        refine gf_iconst C dd_Ou_overCopies_125 ?_
        refine gf_callVl (st := []) (As := [.int (gf_i 0), .int (gf_i 0)]) C wk_Ou_44 gf_cl1 (show gf_is 81 59 0 1 2 by decide) (ct_Ou_valueOf (gf_xl X) E 0 0 m (by omega) (by omega)) rfl ⟨rfl, rfl, rfl, rfl⟩ (Nat.le_of_ble_eq_true rfl) rfl dd_Ou_overCopies_126 (fun r126 m126 hR126 hp126 => ?_)
        have hr126 := hp126.1
        refine gf_pm hp126.2 ?_
        refine gf_lret C hQ dd_Ou_overCopies_129 (by omega) ?_
        have hk1 : k = -1 := by omega
        have htb0 : gf_tb m (μ 41 1) VV 0 := by have := hk2; rw [hk1] at this; exact this
        have hve : r126 = VV (μ 41 1).toNat 0 := by rw [hr126, htb0 0 0 (by omega) (by omega) (by omega) (by omega), show μ 41 1 - 0 = μ 41 1 by omega]
        have hvr := hVR (μ 41 1).toNat 0 (by omega) (by omega) (by omega)
        exact ⟨⟨by rw [hve, hVV], by omega, by omega⟩, hk3⟩
      · skip
        refine gf_aload_n C dd_Ou_overCopies_17 3 rfl ?_
        refine gf_getA (r := 42) C gf_cl5 fl_Ou_54 dd_Ou_overCopies_18 rfl (show gf_is 81 41 0 5 5 by decide) (by decide) (by decide) ?_
        refine gf_iload C dd_Ou_overCopies_21 0 rfl ?_
        refine gf_iald C dd_Ou_overCopies_23 (show gf_is 81 42 1 0 8 by decide) (by omega) (fun hv23 => ?_)
        refine gf_nm (fun x24 hx24 => ?_)
        refine gf_istore (lv' := [(6, .int (gf_i x24)), (5, .int (gf_i k)), (0, .ref (gf_ad E 59)), (1, .ref (gf_ad E g)), (2, .ref (gf_ad E 41)), (3, .int (gf_i p)), (4, .int (gf_i x4))]) C dd_Ou_overCopies_24 (by decide) rfl ?_
        have hfk := hF k (by omega) (by omega)
        rw [← hk3 42 k (by decide), ← hx24] at hfk
        refine gf_iload C dd_Ou_overCopies_26 0 rfl ?_
        refine gf_iconst C dd_Ou_overCopies_28 ?_
        refine gf_iadd C dd_Ou_overCopies_29 ?_
        refine gf_bipush C dd_Ou_overCopies_30 (by decide +kernel) ?_
        refine gf_irem C dd_Ou_overCopies_32 (by omega) ?_
        refine gf_nm (fun x33 hx33 => ?_)
        refine gf_istore (lv' := [(7, .int (gf_i x33)), (6, .int (gf_i x24)), (5, .int (gf_i k)), (0, .ref (gf_ad E 59)), (1, .ref (gf_ad E g)), (2, .ref (gf_ad E 41)), (3, .int (gf_i p)), (4, .int (gf_i x4))]) C dd_Ou_overCopies_33 (by decide) rfl ?_
        refine gf_iconst C dd_Ou_overCopies_35 ?_
        refine gf_istore (lv' := [(8, .int (gf_i 0)), (7, .int (gf_i x33)), (6, .int (gf_i x24)), (5, .int (gf_i k)), (0, .ref (gf_ad E 59)), (1, .ref (gf_ad E g)), (2, .ref (gf_ad E 41)), (3, .int (gf_i p)), (4, .int (gf_i x4))]) C dd_Ou_overCopies_36 (by decide) rfl ?_
        have L38_2 : ∀ (N : Nat) (s : Int) (m' : gf_M) , (0 ≤ s ∧ s ≤ 11 ∧ gf_tb m' (μ 41 1) VV (k + 1) ∧ gf_tr m' (μ 41 1) VV k s ∧ ∀ x y : Int, x ≠ 60 → m' x y = μ x y) → (11 - s).toNat < N → gf_G X E Q 13 gf_φ m' 38 [(8, .int (gf_i s)), (0, .ref (gf_ad E 59)), (1, .ref (gf_ad E g)), (2, .ref (gf_ad E 41)), (3, .int (gf_i p)), (4, .int (gf_i x4)), (5, .int (gf_i k)), (6, .int (gf_i x24)), (7, .int (gf_i x33))] [] := by
          intro N
          induction N with
          | zero => intro s m' hinv hN; exact absurd hN (Nat.not_lt_zero _)
          | succ N ih38_2 =>
            intro s m' hinv hN
            have hinv0 := hinv
            obtain ⟨hs0, hs1, htb, htr, ef38⟩ := hinv
            have hG38 : gf_okG m' g := by unfold gf_okG; rw [ef38 g 0 (by omega), ef38 g 1 (by omega), ef38 g 2 (by omega)]; exact hG
            have hvb : ∀ y : Int, 0 ≤ y → y ≤ 10 → m' 60 ((k + 1) * 11 + y) = VV (μ 41 1 - 1 - k).toNat y := fun y h0 h1 => by rw [htb (k + 1) y (by omega) (by omega) h0 h1, show (μ 41 1 - (k + 1)).toNat = (μ 41 1 - 1 - k).toNat by omega]
            refine gf_iload C dd_Ou_overCopies_38 0 rfl ?_
            refine gf_bipush C dd_Ou_overCopies_40 (by decide +kernel) ?_
            refine gf_icmp_ge 117 C dd_Ou_overCopies_42 (by decide) (by omega) (by omega) (fun h42 => ?_) (fun h42 => ?_)
            · skip
              obtain ⟨x117, hx117⟩ : ∃ y : Int, y = k + (-1) := ⟨_, rfl⟩
              refine gf_iinc (q := 6) (v := x117) (lv' := [(5, .int (gf_i x117)), (8, .int (gf_i s)), (0, .ref (gf_ad E 59)), (1, .ref (gf_ad E g)), (2, .ref (gf_ad E 41)), (3, .int (gf_i p)), (4, .int (gf_i x4)), (6, .int (gf_i x24)), (7, .int (gf_i x33))]) C dd_Ou_overCopies_117 rfl hx117 (by decide) rfl ?_
              refine gf_goto 12 C dd_Ou_overCopies_120 (by decide) ?_
              refine gf_lsub [0, 2, 3, 4, 5, 6] rfl ?_
              exact ih12_1 x117 m' (⟨by omega, by omega, by rw [hx117, show k + -1 + 1 = k by omega]; exact gf_tb_row htb (by rw [show (11 : Int) = s by omega]; exact htr), ef38⟩) (by omega)
            · skip
              refine gf_aload_n C dd_Ou_overCopies_45 1 rfl ?_
              refine gf_iload C dd_Ou_overCopies_46 6 rfl ?_
              refine gf_iconst C dd_Ou_overCopies_48 ?_
              refine gf_iadd C dd_Ou_overCopies_49 ?_
              refine gf_aload_n C dd_Ou_overCopies_50 2 rfl ?_
              refine gf_iload C dd_Ou_overCopies_51 0 rfl ?_
              refine gf_iload C dd_Ou_overCopies_53 6 rfl ?_
              refine gf_iload C dd_Ou_overCopies_55 8 rfl ?_
              refine gf_iload C dd_Ou_overCopies_57 5 rfl ?_
              refine gf_callVi (st := [.int (gf_i (k + 1)), .ref (gf_ad E 59)]) (As := [.int (gf_i s), .int (gf_i k), .int (gf_i x33), .int (gf_i x4)]) C wk_Ou_48 gf_cl0 hg (ct_Gd_follow (gf_xl X) E g s k x33 x4 m' hg (hG38) (by omega) (by omega) (by omega)) rfl ⟨rfl, rfl, rfl, rfl⟩ (Nat.le_of_ble_eq_true rfl) rfl dd_Ou_overCopies_59 (fun r59 m59 hR59 hp59 => ?_)
              have hr59 := hp59.1
              refine gf_pm hp59.2 ?_
              refine gf_callVl (st := []) (As := [.int (gf_i (k + 1)), .int (gf_i r59)]) C wk_Ou_44 gf_cl1 (show gf_is 81 59 0 1 2 by decide) (ct_Ou_valueOf (gf_xl X) E (k + 1) r59 m' (by omega) (by omega)) rfl ⟨rfl, rfl, rfl, rfl⟩ (Nat.le_of_ble_eq_true rfl) rfl dd_Ou_overCopies_62 (fun r62 m62 hR62 hp62 => ?_)
              have hr62 := hp62.1
              refine gf_pm hp62.2 ?_
              refine gf_lstore (lv' := [(9, .long (gf_l r62)), (8, .int (gf_i s)), (0, .ref (gf_ad E 59)), (1, .ref (gf_ad E g)), (2, .ref (gf_ad E 41)), (3, .int (gf_i p)), (4, .int (gf_i x4)), (5, .int (gf_i k)), (6, .int (gf_i x24)), (7, .int (gf_i x33))]) C dd_Ou_overCopies_65 (by decide) rfl ?_
              refine gf_aload_n C dd_Ou_overCopies_67 2 rfl ?_
              refine gf_iload C dd_Ou_overCopies_68 7 rfl ?_
              refine gf_iconst C dd_Ou_overCopies_70 ?_
              refine gf_iadd C dd_Ou_overCopies_71 ?_
              refine gf_aload_n C dd_Ou_overCopies_72 3 rfl ?_
              refine gf_iload C dd_Ou_overCopies_73 1 rfl ?_
              refine gf_iload C dd_Ou_overCopies_75 7 rfl ?_
              refine gf_iload C dd_Ou_overCopies_77 8 rfl ?_
              refine gf_iload C dd_Ou_overCopies_79 6 rfl ?_
              refine gf_callVi (st := [.int (gf_i (k + 1)), .ref (gf_ad E 59)]) (As := [.int (gf_i s), .int (gf_i k), .int (gf_i x24), .int (gf_i x4)]) C wk_Ou_48 gf_cl0 hg (ct_Gd_follow (gf_xl X) E g s k x24 x4 m' hg (hG38) (by omega) (by omega) (by omega)) rfl ⟨rfl, rfl, rfl, rfl⟩ (Nat.le_of_ble_eq_true rfl) rfl dd_Ou_overCopies_81 (fun r81 m81 hR81 hp81 => ?_)
              have hr81 := hp81.1
              refine gf_pm hp81.2 ?_
              refine gf_callVl (st := []) (As := [.int (gf_i (k + 1)), .int (gf_i r81)]) C wk_Ou_44 gf_cl1 (show gf_is 81 59 0 1 2 by decide) (ct_Ou_valueOf (gf_xl X) E (k + 1) r81 m' (by omega) (by omega)) rfl ⟨rfl, rfl, rfl, rfl⟩ (Nat.le_of_ble_eq_true rfl) rfl dd_Ou_overCopies_84 (fun r84 m84 hR84 hp84 => ?_)
              have hr84 := hp84.1
              refine gf_pm hp84.2 ?_
              refine gf_lstore (lv' := [(11, .long (gf_l r84)), (9, .long (gf_l r62)), (8, .int (gf_i s)), (0, .ref (gf_ad E 59)), (1, .ref (gf_ad E g)), (2, .ref (gf_ad E 41)), (3, .int (gf_i p)), (4, .int (gf_i x4)), (5, .int (gf_i k)), (6, .int (gf_i x24)), (7, .int (gf_i x33))]) C dd_Ou_overCopies_87 (by decide) rfl ?_
              have hva : r62 = VV (μ 41 1 - 1 - k).toNat r59 := by rw [hr62]; exact hvb r59 (by omega) (by omega)
              have hvc : r84 = VV (μ 41 1 - 1 - k).toNat r81 := by rw [hr84]; exact hvb r81 (by omega) (by omega)
              have hra := hVR (μ 41 1 - 1 - k).toNat r59 (by omega) (by omega) (by omega)
              have hrb := hVR (μ 41 1 - 1 - k).toNat r81 (by omega) (by omega) (by omega)
              rw [← hva] at hra
              rw [← hvc] at hrb
              refine gf_aload_n C dd_Ou_overCopies_89 3 rfl ?_
              refine gf_iload C dd_Ou_overCopies_90 8 rfl ?_
              refine gf_iload C dd_Ou_overCopies_92 2 rfl ?_
              refine gf_iload_n C dd_Ou_overCopies_94 6 rfl ?_
              refine gf_gi2l C dd_Ou_overCopies_95 (by omega) ?_
              refine gf_lload C dd_Ou_overCopies_96 1 rfl ?_
              refine gf_lmul C dd_Ou_overCopies_98 ?_
              refine gf_bipush C dd_Ou_overCopies_99 (by decide +kernel) ?_
              refine gf_iload_n C dd_Ou_overCopies_101 6 rfl ?_
              refine gf_isub C dd_Ou_overCopies_102 ?_
              refine gf_gi2l C dd_Ou_overCopies_103 (by omega) ?_
              refine gf_lload C dd_Ou_overCopies_104 0 rfl ?_
              refine gf_lmul C dd_Ou_overCopies_106 ?_
              refine gf_ladd C dd_Ou_overCopies_107 ?_
              have hbe : p * r62 + (12 - p) * r84 = VV (μ 41 1 - k).toNat s := by
                have g59 := hr59.1
                have g81 := hr81.1
                rw [ef38 g 0 (by omega), ef38 g 1 (by omega), ef38 g 2 (by omega), hx4] at g59 g81
                rw [hva, hvc, g59, g81, show (μ 41 1 - k).toNat = (μ 41 1 - 1 - k).toNat + 1 by omega, hVV]
                show _ = p * pf_dp _ _ (μ 41 1 - 1 - k).toNat (pf_fol _ _ _ s (μ 41 1 - 1 - ((μ 41 1 - 1 - k).toNat : Nat)) ((μ 42 (μ 41 1 - 1 - ((μ 41 1 - 1 - k).toNat : Nat)) + 1) % 10) _) + (12 - p) * pf_dp _ _ (μ 41 1 - 1 - k).toNat (pf_fol _ _ _ s (μ 41 1 - 1 - ((μ 41 1 - 1 - k).toNat : Nat)) (μ 42 (μ 41 1 - 1 - ((μ 41 1 - 1 - k).toNat : Nat))) _)
                rw [show (μ 41 1 - 1 - ((μ 41 1 - 1 - k).toNat : Nat) : Int) = k by omega, hx33, hx24, hk3 42 k (by decide)]
                rfl
              have hbr := hVR (μ 41 1 - k).toNat s (by omega) (by omega) (by omega)
              rw [← hbe] at hbr
              refine gf_callVv (st := []) (As := [.int (gf_i k), .int (gf_i s), .long (gf_l ((p * r62) + ((12 - p) * r84)))]) C wk_Ou_37 gf_cl1 (show gf_is 81 59 0 1 2 by decide) (ct_Ou_keepValue (gf_xl X) E k s ((p * r62) + ((12 - p) * r84)) m' (by omega) (by omega) (by omega)) rfl ⟨rfl, rfl, rfl, rfl⟩ (Nat.le_of_ble_eq_true rfl) rfl dd_Ou_overCopies_108 (fun m108 hp108 => ?_)
              obtain ⟨x111, hx111⟩ : ∃ y : Int, y = s + 1 := ⟨_, rfl⟩
              refine gf_iinc (q := 2) (v := x111) (lv' := [(8, .int (gf_i x111)), (11, .long (gf_l r84)), (9, .long (gf_l r62)), (0, .ref (gf_ad E 59)), (1, .ref (gf_ad E g)), (2, .ref (gf_ad E 41)), (3, .int (gf_i p)), (4, .int (gf_i x4)), (5, .int (gf_i k)), (6, .int (gf_i x24)), (7, .int (gf_i x33))]) C dd_Ou_overCopies_111 rfl hx111 (by decide) rfl ?_
              refine gf_goto 38 C dd_Ou_overCopies_114 (by decide) ?_
              refine gf_lsub [0, 3, 4, 5, 6, 7, 8, 9, 10] rfl ?_
              exact ih38_2 x111 m108 (by
                          have hkp := gf_tb_keep (by omega) hp108 htb htr hbe
                          exact ⟨by omega, by omega, hkp.1, by rw [hx111]; exact hkp.2, fun x y h => by rw [hp108, gf_up_k h]; exact ef38 x y h⟩) (by omega)
        refine gf_lsub [0, 4, 5, 6, 7, 8, 3, 2, 1] rfl ?_
        exact L38_2 _ 0 m (⟨by omega, by omega, hk2, fun y h0 h1 => by omega, hk3⟩) (Nat.lt_succ_self _)
  refine gf_lsub [0, 2, 3, 4, 5, 1] rfl ?_
  exact L12_1 _ x10 μ (⟨by omega, by omega, fun j y h0 h1 h2 h3 => by rw [show j = μ 41 1 by omega, hrow y h2 h3, show (μ 41 1 - μ 41 1).toNat = 0 by omega, hVV]; rfl, fun x y _ => rfl⟩) (Nat.lt_succ_self _)

theorem dd_Ou_copiesReckonedAlike_0 : decode cc_Ou_copiesReckonedAlike 0 = .ok (.aload_n 0, 1) := by decide +kernel
theorem dd_Ou_copiesReckonedAlike_1 : decode cc_Ou_copiesReckonedAlike 1 = .ok (.aload_n 1, 1) := by decide +kernel
theorem dd_Ou_copiesReckonedAlike_2 : decode cc_Ou_copiesReckonedAlike 2 = .ok (.aload_n 2, 1) := by decide +kernel
theorem dd_Ou_copiesReckonedAlike_3 : decode cc_Ou_copiesReckonedAlike 3 = .ok (.getfield 15, 3) := by decide +kernel
theorem dd_Ou_copiesReckonedAlike_6 : decode cc_Ou_copiesReckonedAlike 6 = .ok (.aload_n 1, 1) := by decide +kernel
theorem dd_Ou_copiesReckonedAlike_7 : decode cc_Ou_copiesReckonedAlike 7 = .ok (.aload_n 2, 1) := by decide +kernel
theorem dd_Ou_copiesReckonedAlike_8 : decode cc_Ou_copiesReckonedAlike 8 = .ok (.getfield 54, 3) := by decide +kernel
theorem dd_Ou_copiesReckonedAlike_11 : decode cc_Ou_copiesReckonedAlike 11 = .ok (.aload_n 2, 1) := by decide +kernel
theorem dd_Ou_copiesReckonedAlike_12 : decode cc_Ou_copiesReckonedAlike 12 = .ok (.getfield 15, 3) := by decide +kernel
theorem dd_Ou_copiesReckonedAlike_15 : decode cc_Ou_copiesReckonedAlike 15 = .ok (.invokevirtual 82, 3) := by decide +kernel
theorem dd_Ou_copiesReckonedAlike_18 : decode cc_Ou_copiesReckonedAlike 18 = .ok (.iconst 1, 1) := by decide +kernel
theorem dd_Ou_copiesReckonedAlike_19 : decode cc_Ou_copiesReckonedAlike 19 = .ok (.iconst 0, 1) := by decide +kernel
theorem dd_Ou_copiesReckonedAlike_20 : decode cc_Ou_copiesReckonedAlike 20 = .ok (.invokevirtual 21, 3) := by decide +kernel
theorem dd_Ou_copiesReckonedAlike_23 : decode cc_Ou_copiesReckonedAlike 23 = .ok (.aload_n 0, 1) := by decide +kernel
theorem dd_Ou_copiesReckonedAlike_24 : decode cc_Ou_copiesReckonedAlike 24 = .ok (.aload_n 1, 1) := by decide +kernel
theorem dd_Ou_copiesReckonedAlike_25 : decode cc_Ou_copiesReckonedAlike 25 = .ok (.aload_n 2, 1) := by decide +kernel
theorem dd_Ou_copiesReckonedAlike_26 : decode cc_Ou_copiesReckonedAlike 26 = .ok (.iload_n 3, 1) := by decide +kernel
theorem dd_Ou_copiesReckonedAlike_27 : decode cc_Ou_copiesReckonedAlike 27 = .ok (.invokevirtual 86, 3) := by decide +kernel
theorem dd_Ou_copiesReckonedAlike_30 : decode cc_Ou_copiesReckonedAlike 30 = .ok (.lreturn, 1) := by decide +kernel
set_option maxRecDepth 100000 in
set_option maxHeartbeats 4000000 in
theorem ct_Ou_copiesReckonedAlike (l : Launch) (E : gf_E) (g : Int) (μ : gf_M) (hg : gf_oGd g) (hg58 : g ≤ 58) (hG : gf_okG μ g) (p : Int) (hp : 0 ≤ p ∧ p ≤ 12) (hs : 0 ≤ μ 41 1 ∧ μ 41 1 ≤ 8) (hF : gf_okF μ 42 (μ 41 1)) : gf_Ml l E yy_Ou_copiesReckonedAlike cc_Ou_copiesReckonedAlike 4 (gf_rm 3 78) 81 gf_ref μ [.ref (gf_ad E 59), .ref (gf_ad E g), .ref (gf_ad E 41), .int (gf_i p)] (fun r μ' => (r = pf_VO (μ g 0) (μ g 1) (μ g 2) (μ 41 1) p (μ 42) (pf_eC (μ g 0) (μ 41 1) (pf_reck (μ g 0) (μ g 1) (μ g 2) (μ 42) (μ 41 1)) 1 0) (μ 41 1).toNat 0 ∧ 0 ≤ r ∧ r ≤ 4299816960) ∧ ∀ x y : Int, x ≠ 60 → μ' x y = μ x y) := by
  refine gf_ml (by decide +kernel) (Nat.le_of_ble_eq_true rfl) (by decide) (fun X Q hlx C hQ => ?_)
  subst hlx
  replace C : gf_C X E cc_Ou_copiesReckonedAlike 4 "GuardFigures$Outlook" (gf_rm 3 78) := C
  show gf_G X E Q 4 gf_φ μ 0 [(0, .ref (gf_ad E 59)), (1, .ref (gf_ad E g)), (2, .ref (gf_ad E 41)), (3, .int (gf_i p))] []
  refine gf_aload_n C dd_Ou_copiesReckonedAlike_0 0 rfl ?_
  refine gf_aload_n C dd_Ou_copiesReckonedAlike_1 1 rfl ?_
  refine gf_aload_n C dd_Ou_copiesReckonedAlike_2 2 rfl ?_
  refine gf_getI (z := 1) C gf_cl5 fl_Ou_15 dd_Ou_copiesReckonedAlike_3 rfl rfl (show gf_is 81 41 0 5 5 by decide) (fun hv3 => ?_)
  refine gf_aload_n C dd_Ou_copiesReckonedAlike_6 1 rfl ?_
  refine gf_aload_n C dd_Ou_copiesReckonedAlike_7 2 rfl ?_
  refine gf_getA (r := 42) C gf_cl5 fl_Ou_54 dd_Ou_copiesReckonedAlike_8 rfl (show gf_is 81 41 0 5 5 by decide) (by decide) (by decide) ?_
  refine gf_aload_n C dd_Ou_copiesReckonedAlike_11 2 rfl ?_
  refine gf_getI (z := 1) C gf_cl5 fl_Ou_15 dd_Ou_copiesReckonedAlike_12 rfl rfl (show gf_is 81 41 0 5 5 by decide) (fun hv12 => ?_)
  skip
  refine gf_callVi (st := [.int (gf_i (μ 41 1)), .ref (gf_ad E g), .ref (gf_ad E 59)]) (As := [.ref (gf_ad E 42), .int (gf_i (μ 41 1))]) C wk_Ou_82 gf_cl0 hg (ct_Gd_reckon (gf_xl X) E g 42 (μ 41 1) 8 μ hg (hG) ((show gf_is 81 42 1 0 8 by decide)) (by omega) (hF)) rfl ⟨rfl, rfl, rfl, rfl⟩ (Nat.le_of_ble_eq_true rfl) rfl dd_Ou_copiesReckonedAlike_15 (fun r15 m15 hR15 hp15 => ?_)
  have hr15 := hp15.1
  refine gf_pm hp15.2 ?_
  refine gf_iconst C dd_Ou_copiesReckonedAlike_18 ?_
  refine gf_iconst C dd_Ou_copiesReckonedAlike_19 ?_
  refine gf_callVv (st := []) (As := [.ref (gf_ad E g), .int (gf_i (μ 41 1)), .int (gf_i r15), .int (gf_i 1), .int (gf_i 0)]) C wk_Ou_21 gf_cl1 (show gf_is 81 59 0 1 2 by decide) (ct_Ou_endWithCheck (gf_xl X) E g μ hg hg58 hG (μ 41 1) r15 1 0 (by omega) (by omega) (by decide) (by decide)) rfl ⟨rfl, rfl, rfl, rfl⟩ (Nat.le_of_ble_eq_true rfl) rfl dd_Ou_copiesReckonedAlike_20 (fun m20 hp20 => ?_)
  obtain ⟨hp20a, hp20b⟩ := hp20
  have e41 : m20 41 1 = μ 41 1 := hp20b 41 1 (by decide)
  have hG20 : gf_okG m20 g := by unfold gf_okG; rw [hp20b g 0 (by omega), hp20b g 1 (by omega), hp20b g 2 (by omega)]; exact hG
  refine gf_aload_n C dd_Ou_copiesReckonedAlike_23 0 rfl ?_
  refine gf_aload_n C dd_Ou_copiesReckonedAlike_24 1 rfl ?_
  refine gf_aload_n C dd_Ou_copiesReckonedAlike_25 2 rfl ?_
  refine gf_iload_n C dd_Ou_copiesReckonedAlike_26 3 rfl ?_
  refine gf_callVl (st := []) (As := [.ref (gf_ad E g), .ref (gf_ad E 41), .int (gf_i p)]) C wk_Ou_86 gf_cl1 (show gf_is 81 59 0 1 2 by decide) (ct_Ou_overCopies (gf_xl X) E g m20 hg hg58 hG20 p (pf_eC (μ g 0) (μ 41 1) (pf_reck (μ g 0) (μ g 1) (μ g 2) (μ 42) (μ 41 1)) 1 0) hp (fun s _ _ => by unfold pf_eC; split <;> omega) (by rw [e41]; exact hs) (by rw [e41]; intro j h0 h1; rw [hp20b 42 j (by decide)]; exact hF j h0 h1) (fun s h0 h1 => by rw [e41, hp20a s h0 h1, hr15.1])) rfl ⟨rfl, rfl, rfl, rfl⟩ (Nat.le_of_ble_eq_true rfl) rfl dd_Ou_copiesReckonedAlike_27 (fun r27 m27 hR27 hp27 => ?_)
  obtain ⟨hp27a, hp27b⟩ := hp27
  refine gf_lret C hQ dd_Ou_copiesReckonedAlike_30 (by omega) ?_
  refine ⟨⟨?_, by omega, by omega⟩, fun x y h => by rw [hp27b x y h]; exact hp20b x y h⟩
  rw [hp27a.1, e41, hp20b g 0 (by omega), hp20b g 1 (by omega), hp20b g 2 (by omega), show m20 42 = μ 42 from funext fun y => hp20b 42 y (by decide)]

theorem dd_Ou_reckonedOverCopies_0 : decode cc_Ou_reckonedOverCopies 0 = .ok (.aload_n 0, 1) := by decide +kernel
theorem dd_Ou_reckonedOverCopies_1 : decode cc_Ou_reckonedOverCopies 1 = .ok (.aload_n 1, 1) := by decide +kernel
theorem dd_Ou_reckonedOverCopies_2 : decode cc_Ou_reckonedOverCopies 2 = .ok (.aload_n 2, 1) := by decide +kernel
theorem dd_Ou_reckonedOverCopies_3 : decode cc_Ou_reckonedOverCopies 3 = .ok (.getfield 15, 3) := by decide +kernel
theorem dd_Ou_reckonedOverCopies_6 : decode cc_Ou_reckonedOverCopies 6 = .ok (.invokevirtual 71, 3) := by decide +kernel
theorem dd_Ou_reckonedOverCopies_9 : decode cc_Ou_reckonedOverCopies 9 = .ok (.aload_n 0, 1) := by decide +kernel
theorem dd_Ou_reckonedOverCopies_10 : decode cc_Ou_reckonedOverCopies 10 = .ok (.aload_n 1, 1) := by decide +kernel
theorem dd_Ou_reckonedOverCopies_11 : decode cc_Ou_reckonedOverCopies 11 = .ok (.aload_n 2, 1) := by decide +kernel
theorem dd_Ou_reckonedOverCopies_12 : decode cc_Ou_reckonedOverCopies 12 = .ok (.iload_n 3, 1) := by decide +kernel
theorem dd_Ou_reckonedOverCopies_13 : decode cc_Ou_reckonedOverCopies 13 = .ok (.invokevirtual 86, 3) := by decide +kernel
theorem dd_Ou_reckonedOverCopies_16 : decode cc_Ou_reckonedOverCopies 16 = .ok (.lreturn, 1) := by decide +kernel
set_option maxRecDepth 100000 in
set_option maxHeartbeats 4000000 in
theorem ct_Ou_reckonedOverCopies (l : Launch) (E : gf_E) (g : Int) (μ : gf_M) (hg : gf_oGd g) (hg58 : g ≤ 58) (hG : gf_okG μ g) (p : Int) (hp : 0 ≤ p ∧ p ≤ 12) (hs : 0 ≤ μ 41 1 ∧ μ 41 1 ≤ 8) (hF : gf_okF μ 42 (μ 41 1)) : gf_Ml l E yy_Ou_reckonedOverCopies cc_Ou_reckonedOverCopies 4 (gf_rm 3 78) 81 gf_ref μ [.ref (gf_ad E 59), .ref (gf_ad E g), .ref (gf_ad E 41), .int (gf_i p)] (fun r μ' => (r = pf_VO (μ g 0) (μ g 1) (μ g 2) (μ 41 1) p (μ 42) (fun s => pf_fin (μ g 0) s (μ 41 1)) (μ 41 1).toNat 0 ∧ 0 ≤ r ∧ r ≤ 4299816960) ∧ ∀ x y : Int, x ≠ 60 → μ' x y = μ x y) := by
  refine gf_ml (by decide +kernel) (Nat.le_of_ble_eq_true rfl) (by decide) (fun X Q hlx C hQ => ?_)
  subst hlx
  replace C : gf_C X E cc_Ou_reckonedOverCopies 4 "GuardFigures$Outlook" (gf_rm 3 78) := C
  show gf_G X E Q 4 gf_φ μ 0 [(0, .ref (gf_ad E 59)), (1, .ref (gf_ad E g)), (2, .ref (gf_ad E 41)), (3, .int (gf_i p))] []
  refine gf_aload_n C dd_Ou_reckonedOverCopies_0 0 rfl ?_
  refine gf_aload_n C dd_Ou_reckonedOverCopies_1 1 rfl ?_
  refine gf_aload_n C dd_Ou_reckonedOverCopies_2 2 rfl ?_
  refine gf_getI (z := 1) C gf_cl5 fl_Ou_15 dd_Ou_reckonedOverCopies_3 rfl rfl (show gf_is 81 41 0 5 5 by decide) (fun hv3 => ?_)
  refine gf_callVv (st := []) (As := [.ref (gf_ad E g), .int (gf_i (μ 41 1))]) C wk_Ou_71 gf_cl1 (show gf_is 81 59 0 1 2 by decide) (ct_Ou_endWithReckoned (gf_xl X) E g μ hg hg58 hG (μ 41 1) (by omega)) rfl ⟨rfl, rfl, rfl, rfl⟩ (Nat.le_of_ble_eq_true rfl) rfl dd_Ou_reckonedOverCopies_6 (fun m6 hp6 => ?_)
  obtain ⟨hp6a, hp6b⟩ := hp6
  have e41 : m6 41 1 = μ 41 1 := hp6b 41 1 (by decide)
  have hG6 : gf_okG m6 g := by unfold gf_okG; rw [hp6b g 0 (by omega), hp6b g 1 (by omega), hp6b g 2 (by omega)]; exact hG
  refine gf_aload_n C dd_Ou_reckonedOverCopies_9 0 rfl ?_
  refine gf_aload_n C dd_Ou_reckonedOverCopies_10 1 rfl ?_
  refine gf_aload_n C dd_Ou_reckonedOverCopies_11 2 rfl ?_
  refine gf_iload_n C dd_Ou_reckonedOverCopies_12 3 rfl ?_
  refine gf_callVl (st := []) (As := [.ref (gf_ad E g), .ref (gf_ad E 41), .int (gf_i p)]) C wk_Ou_86 gf_cl1 (show gf_is 81 59 0 1 2 by decide) (ct_Ou_overCopies (gf_xl X) E g m6 hg hg58 hG6 p (fun s => pf_fin (μ g 0) s (μ 41 1)) hp (fun s h0 h1 => pf_fin_R ⟨h0, h1⟩) (by rw [e41]; exact hs) (by rw [e41]; intro j h0 h1; rw [hp6b 42 j (by decide)]; exact hF j h0 h1) (fun s h0 h1 => by rw [e41, hp6a s h0 h1])) rfl ⟨rfl, rfl, rfl, rfl⟩ (Nat.le_of_ble_eq_true rfl) rfl dd_Ou_reckonedOverCopies_13 (fun r13 m13 hR13 hp13 => ?_)
  obtain ⟨hp13a, hp13b⟩ := hp13
  refine gf_lret C hQ dd_Ou_reckonedOverCopies_16 (by omega) ?_
  refine ⟨⟨?_, by omega, by omega⟩, fun x y h => by rw [hp13b x y h]; exact hp6b x y h⟩
  rw [hp13a.1, e41, hp6b g 0 (by omega), hp6b g 1 (by omega), hp6b g 2 (by omega), show m6 42 = μ 42 from funext fun y => hp6b 42 y (by decide)]
end
section
/-! GuardFigures: what its calls share -/
/-- a finding is answered; a number is told -/
def gf_fd (μ : gf_M) (f : Int) : gf_M := gf_up (gf_up μ 0 15 f) 64 f (gf_w (μ 64 f + 1))
def gf_tl (μ : gf_M) (v : Int) : gf_M := gf_up μ 0 12 v
def pf_num (f : Int → Int) : Nat → Int
  | 0 => 0
  | n + 1 => pf_num f n * 10 + f n
theorem pf_num_R {f : Int → Int} : ∀ n : Nat, (∀ j : Int, 0 ≤ j → j < n → 0 ≤ f j ∧ f j ≤ 9) → 0 ≤ pf_num f n ∧ pf_num f n < 10 ^ n
  | 0, _ => by simp [pf_num]
  | n + 1, h => by
    have ih := pf_num_R n (fun j h0 h1 => h j h0 (by omega))
    have := h n (by omega) (by omega)
    unfold pf_num
    rw [Int.pow_succ]
    omega
theorem pf_num_congr {f g : Int → Int} : ∀ n : Nat, (∀ j : Int, 0 ≤ j → j < n → f j = g j) → pf_num f n = pf_num g n
  | 0, _ => rfl
  | n + 1, h => by unfold pf_num; rw [pf_num_congr n (fun j h0 h1 => h j h0 (by omega)), h n (by omega) (by omega)]
/-- how many of the first n hold -/
def pf_cnt (p : Int → Bool) : Nat → Int
  | 0 => 0
  | n + 1 => pf_cnt p n + (if p n = true then 1 else 0)
theorem pf_cnt_R (p : Int → Bool) : ∀ n : Nat, 0 ≤ pf_cnt p n ∧ pf_cnt p n ≤ n
  | 0 => by simp [pf_cnt]
  | n + 1 => by
    have := pf_cnt_R p n
    unfold pf_cnt
    split <;> omega
theorem pf_cnt_congr {p q : Int → Bool} : ∀ n : Nat, (∀ j : Int, 0 ≤ j → j < n → p j = q j) → pf_cnt p n = pf_cnt q n
  | 0, _ => rfl
  | n + 1, h => by unfold pf_cnt; rw [pf_cnt_congr n (fun j h0 h1 => h j h0 (by omega)), h n (by omega) (by omega)]
/-- the set of the first n that hold, by bits -/
def pf_set (p : Int → Bool) : Nat → Int
  | 0 => 0
  | n + 1 => if p n = true then gf_or (pf_set p n) (gf_shl 1 n) else pf_set p n
theorem pf_set_nb (p : Int → Bool) : ∀ n : Nat, pf_set p n = ((pf_nb (fun i => p i) 0 n : Nat) : Int)
  | 0 => rfl
  | n + 1 => by
    unfold pf_set pf_nb
    rw [pf_set_nb p n, Nat.zero_add]
    by_cases h : p n = true
    · rw [if_pos h, if_pos h]
      unfold gf_or gf_shl
      rw [Int.toNat_natCast, Int.one_mul, Int.toNat_natCast]
      have e2 : ((2 : Int) ^ n).toNat = 2 ^ n := by
        have : ((2 : Int) ^ n) = ((2 ^ n : Nat) : Int) := by simp
        rw [this, Int.toNat_natCast]
      rw [e2]
    · rw [if_neg h, if_neg h]
theorem pf_set_R (p : Int → Bool) (n : Nat) : 0 ≤ pf_set p n ∧ pf_set p n < 2 ^ n := by
  rw [pf_set_nb]
  have := pf_nb_lt (fun i => p i) 0 n
  rw [Nat.zero_add] at this
  constructor
  · omega
  · exact_mod_cast this
theorem pf_set_congr {p q : Int → Bool} : ∀ n : Nat, (∀ j : Int, 0 ≤ j → j < n → p j = q j) → pf_set p n = pf_set q n
  | 0, _ => rfl
  | n + 1, h => by unfold pf_set; rw [pf_set_congr n (fun j h0 h1 => h j h0 (by omega)), h n (by omega) (by omega)]
theorem pf_2_10 {n : Nat} (h : n ≤ 10) : (2 : Int) ^ n ≤ 1024 := by
  have : n = 0 ∨ n = 1 ∨ n = 2 ∨ n = 3 ∨ n = 4 ∨ n = 5 ∨ n = 6 ∨ n = 7 ∨ n = 8 ∨ n = 9 ∨ n = 10 := by omega
  rcases this with rfl | rfl | rfl | rfl | rfl | rfl | rfl | rfl | rfl | rfl | rfl <;> decide
theorem pf_gcd_step {x y : Int} (hx : 0 ≤ x) (hy : 0 < y) : Int.gcd y (x % y) = Int.gcd x y := by
  obtain ⟨a, rfl⟩ : ∃ a : Nat, x = a := ⟨x.toNat, by omega⟩
  obtain ⟨b, rfl⟩ : ∃ b : Nat, y = b := ⟨y.toNat, by omega⟩
  rw [← Int.natCast_emod, Int.gcd_natCast_natCast, Int.gcd_natCast_natCast, Nat.gcd_comm b (a % b), ← Nat.gcd_rec, Nat.gcd_comm]
theorem pf_emod_le {x y : Int} (hx : 0 ≤ x) (hy : 0 < y) : x % y ≤ x := by
  have h3 := Int.emod_add_mul_ediv x y
  have h4 : 0 ≤ y * (x / y) := Int.mul_nonneg (by omega) (Int.ediv_nonneg hx (by omega))
  omega
theorem pf_euc {a b : Int} (hb : 0 < b) (h : b ≤ a) : 2 * (b * (a % b)) ≤ a * b := by
  have h1 : a % b < b := Int.emod_lt_of_pos a hb
  have h2 : 0 ≤ a % b := Int.emod_nonneg a (by omega)
  have h4 : 1 ≤ a / b := by
    have := Int.ediv_le_ediv hb h
    rw [Int.ediv_self (by omega)] at this
    exact this
  have h5 : b * 1 ≤ b * (a / b) := Int.mul_le_mul_of_nonneg_left h4 (by omega)
  have h3 := Int.emod_add_mul_ediv a b
  have h6 : 2 * (a % b) ≤ a := by omega
  have h7 : b * (2 * (a % b)) ≤ b * a := Int.mul_le_mul_of_nonneg_left h6 (by omega)
  have e1 : b * (2 * (a % b)) = 2 * (b * (a % b)) := Int.mul_left_comm b 2 (a % b)
  rw [e1, Int.mul_comm b a] at h7
  exact h7
theorem dd_Fi_isCheck_0 : decode cc_Fi_isCheck 0 = .ok (.iload_n 0, 1) := by decide +kernel
theorem dd_Fi_isCheck_1 : decode cc_Fi_isCheck 1 = .ok (.ifCond .lt 13, 3) := by decide +kernel
theorem dd_Fi_isCheck_4 : decode cc_Fi_isCheck 4 = .ok (.iload_n 0, 1) := by decide +kernel
theorem dd_Fi_isCheck_5 : decode cc_Fi_isCheck 5 = .ok (.bipush 10, 2) := by decide +kernel
theorem dd_Fi_isCheck_7 : decode cc_Fi_isCheck 7 = .ok (.if_icmp .gt 7, 3) := by decide +kernel
theorem dd_Fi_isCheck_10 : decode cc_Fi_isCheck 10 = .ok (.iconst 1, 1) := by decide +kernel
theorem dd_Fi_isCheck_11 : decode cc_Fi_isCheck 11 = .ok (.goto 4, 3) := by decide +kernel
theorem dd_Fi_isCheck_14 : decode cc_Fi_isCheck 14 = .ok (.iconst 0, 1) := by decide +kernel
theorem dd_Fi_isCheck_15 : decode cc_Fi_isCheck 15 = .ok (.ireturn, 1) := by decide +kernel
set_option maxRecDepth 100000 in
set_option maxHeartbeats 4000000 in
theorem ct_Fi_isCheck (l : Launch) (E : gf_E) (c : Int) (μ : gf_M) (hc : gf_R c) : gf_Mi l E yy_Fi_isCheck cc_Fi_isCheck 1 .boolean (gf_rm 0 0) 81 gf_ref μ [.int (gf_i c)] (fun r μ' => ((0 ≤ c ∧ c ≤ 10 → r = 1) ∧ (¬ (0 ≤ c ∧ c ≤ 10) → r = 0)) ∧ μ' = μ) := by
  refine gf_mi (by decide +kernel) (Nat.le_of_ble_eq_true rfl) (by decide) (fun X Q hlx C hQ => ?_)
  subst hlx
  replace C : gf_C X E cc_Fi_isCheck 1 "GuardFigures" (gf_rm 0 0) := C
  show gf_G X E Q 1 gf_φ μ 0 [(0, .int (gf_i c))] []
  refine gf_iload_n C dd_Fi_isCheck_0 0 rfl ?_
  refine gf_if_lt 14 C dd_Fi_isCheck_1 (by decide) (by omega) (fun h1 => ?_) (fun h1 => ?_)
  · skip
    refine gf_iconst C dd_Fi_isCheck_14 ?_
    refine gf_zret C hQ dd_Fi_isCheck_15 (by omega) ?_
    exact ⟨⟨by omega, by omega⟩, rfl⟩
  · skip
    refine gf_iload_n C dd_Fi_isCheck_4 0 rfl ?_
    refine gf_bipush C dd_Fi_isCheck_5 (by decide +kernel) ?_
    refine gf_icmp_gt 14 C dd_Fi_isCheck_7 (by decide) (by omega) (by omega) (fun h7 => ?_) (fun h7 => ?_)
    · skip
      refine gf_iconst C dd_Fi_isCheck_14 ?_
      refine gf_zret C hQ dd_Fi_isCheck_15 (by omega) ?_
      exact ⟨⟨by omega, by omega⟩, rfl⟩
    · skip
      refine gf_iconst C dd_Fi_isCheck_10 ?_
      refine gf_goto 15 C dd_Fi_isCheck_11 (by decide) ?_
      refine gf_zret C hQ dd_Fi_isCheck_15 (by omega) ?_
      exact ⟨⟨by omega, by omega⟩, rfl⟩

theorem dd_Fi_isGuard_0 : decode cc_Fi_isGuard 0 = .ok (.iload_n 1, 1) := by decide +kernel
theorem dd_Fi_isGuard_1 : decode cc_Fi_isGuard 1 = .ok (.aload_n 0, 1) := by decide +kernel
theorem dd_Fi_isGuard_2 : decode cc_Fi_isGuard 2 = .ok (.getfield 131, 3) := by decide +kernel
theorem dd_Fi_isGuard_5 : decode cc_Fi_isGuard 5 = .ok (.invokestatic 78, 3) := by decide +kernel
theorem dd_Fi_isGuard_8 : decode cc_Fi_isGuard 8 = .ok (.ireturn, 1) := by decide +kernel
set_option maxRecDepth 100000 in
set_option maxHeartbeats 4000000 in
theorem ct_Fi_isGuard (l : Launch) (E : gf_E) (i : Int) (μ : gf_M) (hi : gf_R i) : gf_Mi l E yy_Fi_isGuard cc_Fi_isGuard 2 .boolean (gf_rm 1 21) 81 gf_ref μ [.ref (gf_ad E 0), .int (gf_i i)] (fun r μ' => ((0 ≤ i ∧ i < μ 0 3 → r = 1) ∧ (¬ (0 ≤ i ∧ i < μ 0 3) → r = 0)) ∧ μ' = μ) := by
  refine gf_mi (by decide +kernel) (Nat.le_of_ble_eq_true rfl) (by decide) (fun X Q hlx C hQ => ?_)
  subst hlx
  replace C : gf_C X E cc_Fi_isGuard 2 "GuardFigures" (gf_rm 1 21) := C
  show gf_G X E Q 2 gf_φ μ 0 [(0, .ref (gf_ad E 0)), (1, .int (gf_i i))] []
  refine gf_iload_n C dd_Fi_isGuard_0 1 rfl ?_
  refine gf_aload_n C dd_Fi_isGuard_1 0 rfl ?_
  refine gf_getI (z := 3) C gf_cl6 fl_Fi_131 dd_Fi_isGuard_2 rfl rfl (show gf_is 81 0 0 6 17 by decide) (fun hv2 => ?_)
  refine gf_callSi (st := []) (As := [.int (gf_i i), .int (gf_i (μ 0 3))]) C wk_Fi_78 (ct_Fi_isWithin (gf_xl X) E i (μ 0 3) μ (by omega) (by omega)) rfl ⟨rfl, rfl, rfl, rfl⟩ (Nat.le_of_ble_eq_true rfl) rfl dd_Fi_isGuard_5 (fun r5 m5 hR5 hp5 => ?_)
  have hr5 := hp5.1
  refine gf_pm hp5.2 ?_
  refine gf_zret C hQ dd_Fi_isGuard_8 (by have := hr5.1; have := hr5.2; omega) ?_
  exact ⟨hr5, rfl⟩

theorem dd_Fi_found_0 : decode cc_Fi_found 0 = .ok (.aload_n 0, 1) := by decide +kernel
theorem dd_Fi_found_1 : decode cc_Fi_found 1 = .ok (.iload_n 1, 1) := by decide +kernel
theorem dd_Fi_found_2 : decode cc_Fi_found 2 = .ok (.putfield 291, 3) := by decide +kernel
theorem dd_Fi_found_5 : decode cc_Fi_found 5 = .ok (.aload_n 0, 1) := by decide +kernel
theorem dd_Fi_found_6 : decode cc_Fi_found 6 = .ok (.getfield 75, 3) := by decide +kernel
theorem dd_Fi_found_9 : decode cc_Fi_found 9 = .ok (.iload_n 1, 1) := by decide +kernel
theorem dd_Fi_found_10 : decode cc_Fi_found 10 = .ok (.dup2, 1) := by decide +kernel
theorem dd_Fi_found_11 : decode cc_Fi_found 11 = .ok (.iaload, 1) := by decide +kernel
theorem dd_Fi_found_12 : decode cc_Fi_found 12 = .ok (.iconst 1, 1) := by decide +kernel
theorem dd_Fi_found_13 : decode cc_Fi_found 13 = .ok (.iadd, 1) := by decide +kernel
theorem dd_Fi_found_14 : decode cc_Fi_found 14 = .ok (.iastore, 1) := by decide +kernel
theorem dd_Fi_found_15 : decode cc_Fi_found 15 = .ok (.bipush (-3), 2) := by decide +kernel
theorem dd_Fi_found_17 : decode cc_Fi_found 17 = .ok (.ireturn, 1) := by decide +kernel
set_option maxRecDepth 100000 in
set_option maxHeartbeats 4000000 in
theorem ct_Fi_found (l : Launch) (E : gf_E) (f : Int) (μ : gf_M) (hf : 0 ≤ f ∧ f ≤ 5) : gf_Mi l E yy_Fi_found cc_Fi_found 2 .int (gf_rm 0 0) 81 gf_ref μ [.ref (gf_ad E 0), .int (gf_i f)] (fun r μ' => r = -3 ∧ μ' = gf_fd μ f) := by
  refine gf_mi (by decide +kernel) (Nat.le_of_ble_eq_true rfl) (by decide) (fun X Q hlx C hQ => ?_)
  subst hlx
  replace C : gf_C X E cc_Fi_found 2 "GuardFigures" (gf_rm 0 0) := C
  show gf_G X E Q 2 gf_φ μ 0 [(0, .ref (gf_ad E 0)), (1, .int (gf_i f))] []
  refine gf_aload_n C dd_Fi_found_0 0 rfl ?_
  refine gf_iload_n C dd_Fi_found_1 1 rfl ?_
  refine gf_putI (z := 15) C gf_cl6 fl_Fi_291 dd_Fi_found_2 rfl rfl rfl (by decide +kernel) (show gf_is 81 0 0 6 17 by decide) (by omega) ?_
  refine gf_nmM (fun m2 hm2 => ?_)
  refine gf_aload_n C dd_Fi_found_5 0 rfl ?_
  refine gf_getA (r := 64) C gf_cl6 fl_Fi_75 dd_Fi_found_6 rfl (show gf_is 81 0 0 6 17 by decide) (by decide) (by decide) ?_
  refine gf_iload_n C dd_Fi_found_9 1 rfl ?_
  refine gf_dup2 C dd_Fi_found_10 rfl rfl ?_
  refine gf_iald C dd_Fi_found_11 (show gf_is 81 64 1 0 6 by decide) (by omega) (fun hv11 => ?_)
  refine gf_iconst C dd_Fi_found_12 ?_
  refine gf_iadd C dd_Fi_found_13 ?_
  refine gf_iastw C dd_Fi_found_14 (show gf_is 81 64 1 0 6 by decide) (by omega) ?_
  refine gf_nmM (fun m14 hm14 => ?_)
  refine gf_bipush C dd_Fi_found_15 (by decide +kernel) ?_
  refine gf_iret C hQ dd_Fi_found_17 (by omega) ?_
  refine ⟨rfl, ?_⟩
  unfold gf_fd
  rw [hm14, hm2, gf_up_k (a := 64) (by decide)]

theorem dd_Fi_tell_0 : decode cc_Fi_tell 0 = .ok (.aload_n 0, 1) := by decide +kernel
theorem dd_Fi_tell_1 : decode cc_Fi_tell 1 = .ok (.iload_n 1, 1) := by decide +kernel
theorem dd_Fi_tell_2 : decode cc_Fi_tell 2 = .ok (.putfield 205, 3) := by decide +kernel
theorem dd_Fi_tell_5 : decode cc_Fi_tell 5 = .ok (.iconst 1, 1) := by decide +kernel
theorem dd_Fi_tell_6 : decode cc_Fi_tell 6 = .ok (.ireturn, 1) := by decide +kernel
set_option maxRecDepth 100000 in
set_option maxHeartbeats 4000000 in
theorem ct_Fi_tell (l : Launch) (E : gf_E) (v : Int) (μ : gf_M) (hv : gf_R v) : gf_Mi l E yy_Fi_tell cc_Fi_tell 2 .int (gf_rm 0 0) 81 gf_ref μ [.ref (gf_ad E 0), .int (gf_i v)] (fun r μ' => r = 1 ∧ μ' = gf_tl μ v) := by
  refine gf_mi (by decide +kernel) (Nat.le_of_ble_eq_true rfl) (by decide) (fun X Q hlx C hQ => ?_)
  subst hlx
  replace C : gf_C X E cc_Fi_tell 2 "GuardFigures" (gf_rm 0 0) := C
  show gf_G X E Q 2 gf_φ μ 0 [(0, .ref (gf_ad E 0)), (1, .int (gf_i v))] []
  refine gf_aload_n C dd_Fi_tell_0 0 rfl ?_
  refine gf_iload_n C dd_Fi_tell_1 1 rfl ?_
  refine gf_putI (z := 12) C gf_cl6 fl_Fi_205 dd_Fi_tell_2 rfl rfl rfl (by decide +kernel) (show gf_is 81 0 0 6 17 by decide) (by omega) ?_
  refine gf_nmM (fun m2 hm2 => ?_)
  refine gf_iconst C dd_Fi_tell_5 ?_
  refine gf_iret C hQ dd_Fi_tell_6 (by omega) ?_
  exact ⟨rfl, hm2⟩

theorem dd_Fi_power_0 : decode cc_Fi_power 0 = .ok (.lconst 1, 1) := by decide +kernel
theorem dd_Fi_power_1 : decode cc_Fi_power 1 = .ok (.lstore_n 2, 1) := by decide +kernel
theorem dd_Fi_power_2 : decode cc_Fi_power 2 = .ok (.iconst 0, 1) := by decide +kernel
theorem dd_Fi_power_3 : decode cc_Fi_power 3 = .ok (.istore 4, 2) := by decide +kernel
theorem dd_Fi_power_5 : decode cc_Fi_power 5 = .ok (.iload 4, 2) := by decide +kernel
theorem dd_Fi_power_7 : decode cc_Fi_power 7 = .ok (.iload_n 1, 1) := by decide +kernel
theorem dd_Fi_power_8 : decode cc_Fi_power 8 = .ok (.if_icmp .ge 14, 3) := by decide +kernel
theorem dd_Fi_power_11 : decode cc_Fi_power 11 = .ok (.lload_n 2, 1) := by decide +kernel
theorem dd_Fi_power_12 : decode cc_Fi_power 12 = .ok (.iload_n 0, 1) := by decide +kernel
theorem dd_Fi_power_13 : decode cc_Fi_power 13 = .ok (.i2l, 1) := by decide +kernel
theorem dd_Fi_power_14 : decode cc_Fi_power 14 = .ok (.lmul, 1) := by decide +kernel
theorem dd_Fi_power_15 : decode cc_Fi_power 15 = .ok (.lstore_n 2, 1) := by decide +kernel
theorem dd_Fi_power_16 : decode cc_Fi_power 16 = .ok (.iinc 4 1, 3) := by decide +kernel
theorem dd_Fi_power_19 : decode cc_Fi_power 19 = .ok (.goto (-14), 3) := by decide +kernel
theorem dd_Fi_power_22 : decode cc_Fi_power 22 = .ok (.lload_n 2, 1) := by decide +kernel
theorem dd_Fi_power_23 : decode cc_Fi_power 23 = .ok (.lreturn, 1) := by decide +kernel
set_option maxRecDepth 100000 in
set_option maxHeartbeats 4000000 in
theorem ct_Fi_power (l : Launch) (E : gf_E) (b n : Int) (μ : gf_M) (hb : 0 ≤ b ∧ b ≤ 12) (hn : 0 ≤ n ∧ n ≤ 8) : gf_Ml l E yy_Fi_power cc_Fi_power 5 (gf_rm 0 0) 81 gf_ref μ [.int (gf_i b), .int (gf_i n)] (fun r μ' => (r = b ^ n.toNat ∧ 0 ≤ r ∧ r ≤ 429981696) ∧ μ' = μ) := by
  refine gf_ml (by decide +kernel) (Nat.le_of_ble_eq_true rfl) (by decide) (fun X Q hlx C hQ => ?_)
  subst hlx
  replace C : gf_C X E cc_Fi_power 5 "GuardFigures" (gf_rm 0 0) := C
  show gf_G X E Q 5 gf_φ μ 0 [(0, .int (gf_i b)), (1, .int (gf_i n))] []
  refine gf_lconst 1 C dd_Fi_power_0 (by decide +kernel) ?_
  refine gf_lstore_n (lv' := [(2, .long (gf_l 1)), (0, .int (gf_i b)), (1, .int (gf_i n))]) C dd_Fi_power_1 (by decide) rfl ?_
  refine gf_iconst C dd_Fi_power_2 ?_
  refine gf_istore (lv' := [(4, .int (gf_i 0)), (2, .long (gf_l 1)), (0, .int (gf_i b)), (1, .int (gf_i n))]) C dd_Fi_power_3 (by decide) rfl ?_
  have L5_1 : ∀ (N : Nat) (v i : Int) , (0 ≤ i ∧ i ≤ n ∧ v = b ^ i.toNat ∧ 0 ≤ v ∧ v ≤ 12 ^ i.toNat) → (n - i).toNat < N → gf_G X E Q 5 gf_φ μ 5 [(2, .long (gf_l v)), (4, .int (gf_i i)), (0, .int (gf_i b)), (1, .int (gf_i n))] [] := by
    intro N
    induction N with
    | zero => intro v i hinv hN; exact absurd hN (Nat.not_lt_zero _)
    | succ N ih5_1 =>
      intro v i hinv hN
      have hinv0 := hinv
      obtain ⟨hi0, hi1, hv, hv0, hv1⟩ := hinv
      have h12 := pf_12_8 (k := i.toNat) (by omega)
      refine gf_iload C dd_Fi_power_5 1 rfl ?_
      refine gf_iload_n C dd_Fi_power_7 3 rfl ?_
      refine gf_icmp_ge 22 C dd_Fi_power_8 (by decide) (by omega) (by omega) (fun h8 => ?_) (fun h8 => ?_)
      · skip
        refine gf_lload_n C dd_Fi_power_22 0 rfl ?_
        refine gf_lret C hQ dd_Fi_power_23 (by omega) ?_
        refine ⟨⟨by rw [hv, show i = n by omega], by omega, by omega⟩, rfl⟩
      · skip
        refine gf_lload_n C dd_Fi_power_11 0 rfl ?_
        refine gf_iload_n C dd_Fi_power_12 2 rfl ?_
        refine gf_gi2l C dd_Fi_power_13 (by omega) ?_
        refine gf_lmul C dd_Fi_power_14 ?_
        refine gf_nml (fun x15 hx15 => ?_)
        refine gf_lstore_n (lv' := [(2, .long (gf_l x15)), (4, .int (gf_i i)), (0, .int (gf_i b)), (1, .int (gf_i n))]) C dd_Fi_power_15 (by decide) rfl ?_
        obtain ⟨x16, hx16⟩ : ∃ y : Int, y = i + 1 := ⟨_, rfl⟩
        refine gf_iinc (q := 1) (v := x16) (lv' := [(4, .int (gf_i x16)), (2, .long (gf_l x15)), (0, .int (gf_i b)), (1, .int (gf_i n))]) C dd_Fi_power_16 rfl hx16 (by decide) rfl ?_
        refine gf_goto 5 C dd_Fi_power_19 (by decide) ?_
        refine gf_lsub [1, 0, 2, 3] rfl ?_
        exact ih5_1 x15 x16 (by
                have e1 : (i + 1).toNat = i.toNat + 1 := by omega
                have hm := pf_mulb (a := v) (b := b) (A := 12 ^ i.toNat) (B := 12) ⟨hv0, hv1⟩ hb
                refine ⟨by omega, by omega, ?_, by omega, ?_⟩
                · rw [hx15, hx16, e1, Int.pow_succ, hv]
                · rw [hx15, hx16, e1, Int.pow_succ]; exact hm.2) (by omega)
  refine gf_lsub [1, 0, 2, 3] rfl ?_
  exact L5_1 _ 1 0 (⟨by omega, by omega, by simp, by omega, by simp⟩) (Nat.lt_succ_self _)

theorem dd_Fi_commonDivisor_0 : decode cc_Fi_commonDivisor 0 = .ok (.lload_n 0, 1) := by decide +kernel
theorem dd_Fi_commonDivisor_1 : decode cc_Fi_commonDivisor 1 = .ok (.lstore 4, 2) := by decide +kernel
theorem dd_Fi_commonDivisor_3 : decode cc_Fi_commonDivisor 3 = .ok (.lload_n 2, 1) := by decide +kernel
theorem dd_Fi_commonDivisor_4 : decode cc_Fi_commonDivisor 4 = .ok (.lstore 6, 2) := by decide +kernel
theorem dd_Fi_commonDivisor_6 : decode cc_Fi_commonDivisor 6 = .ok (.iconst 0, 1) := by decide +kernel
theorem dd_Fi_commonDivisor_7 : decode cc_Fi_commonDivisor 7 = .ok (.istore 8, 2) := by decide +kernel
theorem dd_Fi_commonDivisor_9 : decode cc_Fi_commonDivisor 9 = .ok (.iload 8, 2) := by decide +kernel
theorem dd_Fi_commonDivisor_11 : decode cc_Fi_commonDivisor 11 = .ok (.sipush 128, 3) := by decide +kernel
theorem dd_Fi_commonDivisor_14 : decode cc_Fi_commonDivisor 14 = .ok (.if_icmp .ge 31, 3) := by decide +kernel
theorem dd_Fi_commonDivisor_17 : decode cc_Fi_commonDivisor 17 = .ok (.lload 6, 2) := by decide +kernel
theorem dd_Fi_commonDivisor_19 : decode cc_Fi_commonDivisor 19 = .ok (.lconst 0, 1) := by decide +kernel
theorem dd_Fi_commonDivisor_20 : decode cc_Fi_commonDivisor 20 = .ok (.lcmp, 1) := by decide +kernel
theorem dd_Fi_commonDivisor_21 : decode cc_Fi_commonDivisor 21 = .ok (.ifCond .eq 24, 3) := by decide +kernel
theorem dd_Fi_commonDivisor_24 : decode cc_Fi_commonDivisor 24 = .ok (.lload 4, 2) := by decide +kernel
theorem dd_Fi_commonDivisor_26 : decode cc_Fi_commonDivisor 26 = .ok (.lload 6, 2) := by decide +kernel
theorem dd_Fi_commonDivisor_28 : decode cc_Fi_commonDivisor 28 = .ok (.lrem, 1) := by decide +kernel
theorem dd_Fi_commonDivisor_29 : decode cc_Fi_commonDivisor 29 = .ok (.lstore 9, 2) := by decide +kernel
theorem dd_Fi_commonDivisor_31 : decode cc_Fi_commonDivisor 31 = .ok (.lload 6, 2) := by decide +kernel
theorem dd_Fi_commonDivisor_33 : decode cc_Fi_commonDivisor 33 = .ok (.lstore 4, 2) := by decide +kernel
theorem dd_Fi_commonDivisor_35 : decode cc_Fi_commonDivisor 35 = .ok (.lload 9, 2) := by decide +kernel
theorem dd_Fi_commonDivisor_37 : decode cc_Fi_commonDivisor 37 = .ok (.lstore 6, 2) := by decide +kernel
theorem dd_Fi_commonDivisor_39 : decode cc_Fi_commonDivisor 39 = .ok (.iinc 8 1, 3) := by decide +kernel
theorem dd_Fi_commonDivisor_42 : decode cc_Fi_commonDivisor 42 = .ok (.goto (-33), 3) := by decide +kernel
theorem dd_Fi_commonDivisor_45 : decode cc_Fi_commonDivisor 45 = .ok (.lload 4, 2) := by decide +kernel
theorem dd_Fi_commonDivisor_47 : decode cc_Fi_commonDivisor 47 = .ok (.lreturn, 1) := by decide +kernel
set_option maxRecDepth 100000 in
set_option maxHeartbeats 4000000 in
theorem ct_Fi_commonDivisor (l : Launch) (E : gf_E) (a b : Int) (μ : gf_M) (ha : 0 < a ∧ a ≤ 429981696) (hb : 0 ≤ b ∧ b ≤ 4299816960) : gf_Ml l E yy_Fi_commonDivisor cc_Fi_commonDivisor 11 (gf_rm 0 0) 81 gf_ref μ [.long (gf_l a), .long (gf_l b)] (fun r μ' => (r = (Int.gcd a b : Int) ∧ 0 < r ∧ r ≤ 4299816960) ∧ μ' = μ) := by
  refine gf_ml (by decide +kernel) (Nat.le_of_ble_eq_true rfl) (by decide) (fun X Q hlx C hQ => ?_)
  subst hlx
  replace C : gf_C X E cc_Fi_commonDivisor 11 "GuardFigures" (gf_rm 0 0) := C
  show gf_G X E Q 11 gf_φ μ 0 [(0, .long (gf_l a)), (2, .long (gf_l b))] []
  have hab := pf_mulb (a := a) (b := b) (A := 429981696) (B := 4299816960) ⟨by omega, by omega⟩ hb
  refine gf_lload_n C dd_Fi_commonDivisor_0 0 rfl ?_
  refine gf_lstore (lv' := [(4, .long (gf_l a)), (0, .long (gf_l a)), (2, .long (gf_l b))]) C dd_Fi_commonDivisor_1 (by decide) rfl ?_
  refine gf_lload_n C dd_Fi_commonDivisor_3 2 rfl ?_
  refine gf_lstore (lv' := [(6, .long (gf_l b)), (4, .long (gf_l a)), (0, .long (gf_l a)), (2, .long (gf_l b))]) C dd_Fi_commonDivisor_4 (by decide) rfl ?_
  refine gf_iconst C dd_Fi_commonDivisor_6 ?_
  refine gf_istore (lv' := [(8, .int (gf_i 0)), (6, .long (gf_l b)), (4, .long (gf_l a)), (0, .long (gf_l a)), (2, .long (gf_l b))]) C dd_Fi_commonDivisor_7 (by decide) rfl ?_
  have L9_1 : ∀ (N : Nat) (x y u : Int) , (0 ≤ u ∧ u ≤ 128 ∧ 0 < x ∧ x ≤ 4299816960 ∧ 0 ≤ y ∧ y ≤ 4299816960 ∧ (Int.gcd x y : Int) = (Int.gcd a b : Int) ∧ (u = 0 → x = a ∧ y = b) ∧ (0 < u → y < x ∧ 2 ^ (u - 1).toNat * (x * y) ≤ a * b)) → (128 - u).toNat < N → gf_G X E Q 11 gf_φ μ 9 [(4, .long (gf_l x)), (6, .long (gf_l y)), (8, .int (gf_i u))] [] := by
    intro N
    induction N with
    | zero => intro x y u hinv hN; exact absurd hN (Nat.not_lt_zero _)
    | succ N ih9_1 =>
      intro x y u hinv hN
      have hinv0 := hinv
      obtain ⟨hu0, hu1, hx0, hx1, hy0, hy1, hg, hz0, hz1⟩ := hinv
      refine gf_iload C dd_Fi_commonDivisor_9 2 rfl ?_
      refine gf_sipush C dd_Fi_commonDivisor_11 (by decide +kernel) ?_
      refine gf_icmp_ge 45 C dd_Fi_commonDivisor_14 (by decide) (by omega) (by omega) (fun h14 => ?_) (fun h14 => ?_)
      · skip
        have hy0' : y = 0 := by
          obtain ⟨e1, e2⟩ := hz1 (by omega)
          rcases (show y = 0 ∨ 1 ≤ y by omega) with h | h
          · exact h
          · exfalso
            have hxy : 1 * 1 ≤ x * y := Int.mul_le_mul (by omega) h (by omega) (by omega)
            rw [show (u - 1).toNat = 127 by omega] at e2
            have e3 : (2 : Int) ^ 127 * (1 * 1) ≤ 2 ^ 127 * (x * y) := Int.mul_le_mul_of_nonneg_left hxy (by decide)
            have e4 : (2 : Int) ^ 127 = 170141183460469231731687303715884105728 := by decide
            rw [e4] at e3 e2
            omega
        refine gf_lload C dd_Fi_commonDivisor_45 0 rfl ?_
        refine gf_lret C hQ dd_Fi_commonDivisor_47 (by omega) ?_
        refine ⟨⟨?_, by omega, by omega⟩, rfl⟩
        rw [← hg, hy0', Int.gcd_zero_right]
        omega
      · skip
        refine gf_lload C dd_Fi_commonDivisor_17 1 rfl ?_
        refine gf_lconst 0 C dd_Fi_commonDivisor_19 (by decide +kernel) ?_
        refine gf_lcmp C dd_Fi_commonDivisor_20 (by omega) (by omega) (fun c20 hc20a hc20b hc20c => ?_)
        refine gf_if_eq 45 C dd_Fi_commonDivisor_21 (by decide) (by omega) (fun h21 => ?_) (fun h21 => ?_)
        · skip
          have hy0' : y = 0 := by omega
          refine gf_lload C dd_Fi_commonDivisor_45 0 rfl ?_
          refine gf_lret C hQ dd_Fi_commonDivisor_47 (by omega) ?_
          refine ⟨⟨?_, by omega, by omega⟩, rfl⟩
          rw [← hg, hy0', Int.gcd_zero_right]
          omega
        · skip
          refine gf_lload C dd_Fi_commonDivisor_24 0 rfl ?_
          refine gf_lload C dd_Fi_commonDivisor_26 1 rfl ?_
          refine gf_lrem C dd_Fi_commonDivisor_28 (by omega) ?_
          refine gf_nml (fun x29 hx29 => ?_)
          refine gf_lstore (lv' := [(9, .long (gf_l x29)), (4, .long (gf_l x)), (6, .long (gf_l y)), (8, .int (gf_i u))]) C dd_Fi_commonDivisor_29 (by decide) rfl ?_
          refine gf_lload C dd_Fi_commonDivisor_31 2 rfl ?_
          refine gf_lstore (lv' := [(4, .long (gf_l y)), (9, .long (gf_l x29)), (6, .long (gf_l y)), (8, .int (gf_i u))]) C dd_Fi_commonDivisor_33 (by decide) rfl ?_
          refine gf_lload C dd_Fi_commonDivisor_35 1 rfl ?_
          refine gf_lstore (lv' := [(6, .long (gf_l x29)), (4, .long (gf_l y)), (9, .long (gf_l x29)), (8, .int (gf_i u))]) C dd_Fi_commonDivisor_37 (by decide) rfl ?_
          obtain ⟨x39, hx39⟩ : ∃ y : Int, y = u + 1 := ⟨_, rfl⟩
          refine gf_iinc (q := 3) (v := x39) (lv' := [(8, .int (gf_i x39)), (6, .long (gf_l x29)), (4, .long (gf_l y)), (9, .long (gf_l x29))]) C dd_Fi_commonDivisor_39 rfl hx39 (by decide) rfl ?_
          refine gf_goto 9 C dd_Fi_commonDivisor_42 (by decide) ?_
          refine gf_lsub [2, 1, 0] rfl ?_
          exact ih9_1 y x29 x39 (by
                  have hyp : 0 < y := by omega
                  have hm0 : 0 ≤ x % y := Int.emod_nonneg x (by omega)
                  have hm1 : x % y < y := Int.emod_lt_of_pos x hyp
                  refine ⟨by omega, by omega, by omega, by omega, by omega, by omega, ?_, fun h => by omega, fun _ => ⟨by omega, ?_⟩⟩
                  · rw [hx29, ← hg]
                    congr 1
                    exact pf_gcd_step (by omega) hyp
                  · rw [hx29, hx39]
                    rcases (show u = 0 ∨ 0 < u by omega) with h | h
                    · rw [h, show ((0 : Int) + 1 - 1).toNat = 0 by omega, Int.pow_zero, Int.one_mul]
                      obtain ⟨e1, e2⟩ := hz0 h
                      rw [← e1, ← e2, Int.mul_comm x y]
                      exact Int.mul_le_mul_of_nonneg_left (pf_emod_le (by omega) hyp) (by omega)
                    · obtain ⟨e1, e2⟩ := hz1 h
                      have hE := pf_euc hyp (by omega : y ≤ x)
                      rw [show (u + 1 - 1).toNat = (u - 1).toNat + 1 by omega, Int.pow_succ, Int.mul_assoc]
                      refine Int.le_trans (Int.mul_le_mul_of_nonneg_left hE ?_) e2
                      exact Int.le_of_lt (Int.pow_pos (by decide))) (by omega)
  refine gf_lsub [2, 1, 0] rfl ?_
  exact L9_1 _ a b 0 (⟨by omega, by omega, by omega, by omega, by omega, by omega, rfl, fun _ => ⟨rfl, rfl⟩, fun h => by omega⟩) (Nat.lt_succ_self _)

theorem dd_Fi_tellShare_0 : decode cc_Fi_tellShare 0 = .ok (.bipush 12, 2) := by decide +kernel
theorem dd_Fi_tellShare_2 : decode cc_Fi_tellShare 2 = .ok (.aload_n 0, 1) := by decide +kernel
theorem dd_Fi_tellShare_3 : decode cc_Fi_tellShare 3 = .ok (.getfield 35, 3) := by decide +kernel
theorem dd_Fi_tellShare_6 : decode cc_Fi_tellShare 6 = .ok (.getfield 168, 3) := by decide +kernel
theorem dd_Fi_tellShare_9 : decode cc_Fi_tellShare 9 = .ok (.invokestatic 266, 3) := by decide +kernel
theorem dd_Fi_tellShare_12 : decode cc_Fi_tellShare 12 = .ok (.lstore_n 3, 1) := by decide +kernel
theorem dd_Fi_tellShare_13 : decode cc_Fi_tellShare 13 = .ok (.lload_n 3, 1) := by decide +kernel
theorem dd_Fi_tellShare_14 : decode cc_Fi_tellShare 14 = .ok (.lload_n 1, 1) := by decide +kernel
theorem dd_Fi_tellShare_15 : decode cc_Fi_tellShare 15 = .ok (.invokestatic 307, 3) := by decide +kernel
theorem dd_Fi_tellShare_18 : decode cc_Fi_tellShare 18 = .ok (.lstore 5, 2) := by decide +kernel
theorem dd_Fi_tellShare_20 : decode cc_Fi_tellShare 20 = .ok (.lload 5, 2) := by decide +kernel
theorem dd_Fi_tellShare_22 : decode cc_Fi_tellShare 22 = .ok (.lconst 0, 1) := by decide +kernel
theorem dd_Fi_tellShare_23 : decode cc_Fi_tellShare 23 = .ok (.lcmp, 1) := by decide +kernel
theorem dd_Fi_tellShare_24 : decode cc_Fi_tellShare 24 = .ok (.ifCond .le 19, 3) := by decide +kernel
theorem dd_Fi_tellShare_27 : decode cc_Fi_tellShare 27 = .ok (.aload_n 0, 1) := by decide +kernel
theorem dd_Fi_tellShare_28 : decode cc_Fi_tellShare 28 = .ok (.lload_n 1, 1) := by decide +kernel
theorem dd_Fi_tellShare_29 : decode cc_Fi_tellShare 29 = .ok (.lload 5, 2) := by decide +kernel
theorem dd_Fi_tellShare_31 : decode cc_Fi_tellShare 31 = .ok (.ldiv, 1) := by decide +kernel
theorem dd_Fi_tellShare_32 : decode cc_Fi_tellShare 32 = .ok (.putfield 285, 3) := by decide +kernel
theorem dd_Fi_tellShare_35 : decode cc_Fi_tellShare 35 = .ok (.aload_n 0, 1) := by decide +kernel
theorem dd_Fi_tellShare_36 : decode cc_Fi_tellShare 36 = .ok (.lload_n 3, 1) := by decide +kernel
theorem dd_Fi_tellShare_37 : decode cc_Fi_tellShare 37 = .ok (.lload 5, 2) := by decide +kernel
theorem dd_Fi_tellShare_39 : decode cc_Fi_tellShare 39 = .ok (.ldiv, 1) := by decide +kernel
theorem dd_Fi_tellShare_40 : decode cc_Fi_tellShare 40 = .ok (.putfield 71, 3) := by decide +kernel
theorem dd_Fi_tellShare_43 : decode cc_Fi_tellShare 43 = .ok (.iconst 1, 1) := by decide +kernel
theorem dd_Fi_tellShare_44 : decode cc_Fi_tellShare 44 = .ok (.ireturn, 1) := by decide +kernel
set_option maxRecDepth 100000 in
set_option maxHeartbeats 4000000 in
theorem ct_Fi_tellShare (l : Launch) (E : gf_E) (h : Int) (μ : gf_M) (hh : 0 ≤ h ∧ h ≤ 4299816960) (hs : 0 ≤ μ 41 1 ∧ μ 41 1 ≤ 8) : gf_Mi l E yy_Fi_tellShare cc_Fi_tellShare 7 .int (gf_rm 1 30) 81 gf_ref μ [.ref (gf_ad E 0), .long (gf_l h)] (fun r μ' => r = 1 ∧ μ' = gf_up (gf_up μ 0 13 (h / (Int.gcd (12 ^ (μ 41 1).toNat) h : Int))) 0 14 (12 ^ (μ 41 1).toNat / (Int.gcd (12 ^ (μ 41 1).toNat) h : Int))) := by
  refine gf_mi (by decide +kernel) (Nat.le_of_ble_eq_true rfl) (by decide) (fun X Q hlx C hQ => ?_)
  subst hlx
  replace C : gf_C X E cc_Fi_tellShare 7 "GuardFigures" (gf_rm 1 30) := C
  show gf_G X E Q 7 gf_φ μ 0 [(0, .ref (gf_ad E 0)), (1, .long (gf_l h))] []
  refine gf_bipush C dd_Fi_tellShare_0 (by decide +kernel) ?_
  refine gf_aload_n C dd_Fi_tellShare_2 0 rfl ?_
  refine gf_getA (r := 41) C gf_cl6 fl_Fi_35 dd_Fi_tellShare_3 rfl (show gf_is 81 0 0 6 17 by decide) (by decide) (by decide) ?_
  refine gf_getI (z := 1) C gf_cl5 fl_Fi_168 dd_Fi_tellShare_6 rfl rfl (show gf_is 81 41 0 5 5 by decide) (fun hv6 => ?_)
  refine gf_callSl (st := []) (As := [.int (gf_i 12), .int (gf_i (μ 41 1))]) C wk_Fi_266 (ct_Fi_power (gf_xl X) E 12 (μ 41 1) μ (by omega) (by omega)) rfl ⟨rfl, rfl, rfl, rfl⟩ (Nat.le_of_ble_eq_true rfl) rfl dd_Fi_tellShare_9 (fun r9 m9 hR9 hp9 => ?_)
  have hr9 := hp9.1
  refine gf_pm hp9.2 ?_
  have hpp : 0 < r9 := by rw [hr9.1]; exact Int.pow_pos (by decide)
  refine gf_lstore_n (lv' := [(3, .long (gf_l r9)), (0, .ref (gf_ad E 0)), (1, .long (gf_l h))]) C dd_Fi_tellShare_12 (by decide) rfl ?_
  refine gf_lload_n C dd_Fi_tellShare_13 0 rfl ?_
  refine gf_lload_n C dd_Fi_tellShare_14 2 rfl ?_
  refine gf_callSl (st := []) (As := [.long (gf_l r9), .long (gf_l h)]) C wk_Fi_307 (ct_Fi_commonDivisor (gf_xl X) E r9 h μ (by omega) (by omega)) rfl ⟨rfl, rfl, rfl, rfl⟩ (Nat.le_of_ble_eq_true rfl) rfl dd_Fi_tellShare_15 (fun r15 m15 hR15 hp15 => ?_)
  have hr15 := hp15.1
  refine gf_pm hp15.2 ?_
  refine gf_lstore (lv' := [(5, .long (gf_l r15)), (3, .long (gf_l r9)), (0, .ref (gf_ad E 0)), (1, .long (gf_l h))]) C dd_Fi_tellShare_18 (by decide) rfl ?_
  refine gf_lload C dd_Fi_tellShare_20 0 rfl ?_
  refine gf_lconst 0 C dd_Fi_tellShare_22 (by decide +kernel) ?_
  refine gf_lcmp C dd_Fi_tellShare_23 (by omega) (by omega) (fun c23 hc23a hc23b hc23c => ?_)
  refine gf_if_le 43 C dd_Fi_tellShare_24 (by decide) (by omega) (fun h24 => ?_) (fun h24 => ?_)
  · skip
    refine gf_iconst C dd_Fi_tellShare_43 ?_
    refine gf_iret C hQ dd_Fi_tellShare_44 (by omega) ?_
    first
      | omega
      | (refine ⟨rfl, ?_⟩
         rw [hm40, hm32, Int.tdiv_eq_ediv_of_nonneg hh.1, Int.tdiv_eq_ediv_of_nonneg (by omega), hr15.1, hr9.1])
  · skip
    refine gf_aload_n C dd_Fi_tellShare_27 2 rfl ?_
    refine gf_lload_n C dd_Fi_tellShare_28 3 rfl ?_
    refine gf_lload C dd_Fi_tellShare_29 0 rfl ?_
    refine gf_ldiv C dd_Fi_tellShare_31 (by omega) ?_
    refine gf_putL (z := 13) C gf_cl6 fl_Fi_285 dd_Fi_tellShare_32 rfl rfl rfl (by decide +kernel) (show gf_is 81 0 0 6 17 by decide) (by rw [Int.tdiv_eq_ediv_of_nonneg (by omega)]; have h1 := Int.ediv_le_self r15 hh.1; have h2 : 0 ≤ h / r15 := Int.ediv_nonneg hh.1 (by omega); omega) ?_
    refine gf_nmM (fun m32 hm32 => ?_)
    refine gf_aload_n C dd_Fi_tellShare_35 2 rfl ?_
    refine gf_lload_n C dd_Fi_tellShare_36 1 rfl ?_
    refine gf_lload C dd_Fi_tellShare_37 0 rfl ?_
    refine gf_ldiv C dd_Fi_tellShare_39 (by omega) ?_
    refine gf_putL (z := 14) C gf_cl6 fl_Fi_71 dd_Fi_tellShare_40 rfl rfl rfl (by decide +kernel) (show gf_is 81 0 0 6 17 by decide) (by rw [Int.tdiv_eq_ediv_of_nonneg (by omega)]; have h1 := Int.ediv_le_self r15 (show 0 ≤ r9 by omega); have h2 : 0 ≤ r9 / r15 := Int.ediv_nonneg (by omega) (by omega); omega) ?_
    refine gf_nmM (fun m40 hm40 => ?_)
    refine gf_iconst C dd_Fi_tellShare_43 ?_
    refine gf_iret C hQ dd_Fi_tellShare_44 (by omega) ?_
    first
      | omega
      | (refine ⟨rfl, ?_⟩
         rw [hm40, hm32, Int.tdiv_eq_ediv_of_nonneg hh.1, Int.tdiv_eq_ediv_of_nonneg (by omega), hr15.1, hr9.1])

theorem dd_Fi_renew_0 : decode cc_Fi_renew 0 = .ok (.iload_n 2, 1) := by decide +kernel
theorem dd_Fi_renew_1 : decode cc_Fi_renew 1 = .ok (.ifCond .ge 9, 3) := by decide +kernel
theorem dd_Fi_renew_4 : decode cc_Fi_renew 4 = .ok (.aload_n 0, 1) := by decide +kernel
theorem dd_Fi_renew_5 : decode cc_Fi_renew 5 = .ok (.iconst 5, 1) := by decide +kernel
theorem dd_Fi_renew_6 : decode cc_Fi_renew 6 = .ok (.invokevirtual 104, 3) := by decide +kernel
theorem dd_Fi_renew_9 : decode cc_Fi_renew 9 = .ok (.ireturn, 1) := by decide +kernel
theorem dd_Fi_renew_10 : decode cc_Fi_renew 10 = .ok (.aload_n 1, 1) := by decide +kernel
theorem dd_Fi_renew_11 : decode cc_Fi_renew 11 = .ok (.iload_n 2, 1) := by decide +kernel
theorem dd_Fi_renew_12 : decode cc_Fi_renew 12 = .ok (.iload_n 3, 1) := by decide +kernel
theorem dd_Fi_renew_13 : decode cc_Fi_renew 13 = .ok (.invokevirtual 311, 3) := by decide +kernel
theorem dd_Fi_renew_16 : decode cc_Fi_renew 16 = .ok (.iload_n 2, 1) := by decide +kernel
theorem dd_Fi_renew_17 : decode cc_Fi_renew 17 = .ok (.ireturn, 1) := by decide +kernel
set_option maxRecDepth 100000 in
set_option maxHeartbeats 4000000 in
theorem ct_Fi_renew (l : Launch) (E : gf_E) (k n v : Int) (N : Nat) (μ : gf_M) (hk : gf_oRow k N) (hn : gf_R n ∧ n ≤ (N : Int)) (hv : gf_R v) (hN : N ≤ 60) : gf_Mi l E yy_Fi_renew cc_Fi_renew 4 .int (gf_rm 2 53) 81 gf_ref μ [.ref (gf_ad E 0), .ref (gf_ad E k), .int (gf_i n), .int (gf_i v)] (fun r μ' => (n < 0 → r = -3 ∧ μ' = gf_fd μ 5) ∧ (0 ≤ n → r = n ∧ μ' k 1 = n ∧ (∀ j : Int, 0 ≤ j → j < n → μ' (k + 1) j = v) ∧ ∀ a b : Int, ¬ (a = k ∧ b = 1) → ¬ (a = k + 1 ∧ 0 ≤ b ∧ b < n) → μ' a b = μ a b)) := by
  refine gf_mi (by decide +kernel) (Nat.le_of_ble_eq_true rfl) (by decide) (fun X Q hlx C hQ => ?_)
  subst hlx
  replace C : gf_C X E cc_Fi_renew 4 "GuardFigures" (gf_rm 2 53) := C
  show gf_G X E Q 4 gf_φ μ 0 [(0, .ref (gf_ad E 0)), (1, .ref (gf_ad E k)), (2, .int (gf_i n)), (3, .int (gf_i v))] []
  refine gf_iload_n C dd_Fi_renew_0 2 rfl ?_
  refine gf_if_ge 10 C dd_Fi_renew_1 (by decide) (by omega) (fun h1 => ?_) (fun h1 => ?_)
  · skip
    refine gf_aload_n C dd_Fi_renew_10 1 rfl ?_
    refine gf_iload_n C dd_Fi_renew_11 2 rfl ?_
    refine gf_iload_n C dd_Fi_renew_12 3 rfl ?_
    refine gf_callVv (st := []) (As := [.int (gf_i n), .int (gf_i v)]) C wk_Fi_311 gf_cl3 hk.1 (ct_Ro_renew (gf_xl X) E k N μ hk n v (by omega) hv hN) rfl ⟨rfl, rfl, rfl, rfl⟩ (Nat.le_of_ble_eq_true rfl) rfl dd_Fi_renew_13 (fun m13 hp13 => ?_)
    refine gf_iload_n C dd_Fi_renew_16 2 rfl ?_
    refine gf_iret C hQ dd_Fi_renew_17 (by omega) ?_
    exact ⟨fun h => by omega, fun _ => ⟨rfl, hp13⟩⟩
  · skip
    refine gf_aload_n C dd_Fi_renew_4 0 rfl ?_
    refine gf_iconst C dd_Fi_renew_5 ?_
    refine gf_callVi (st := []) (As := [.int (gf_i 5)]) C wk_Fi_104 gf_cl6 (show gf_is 81 0 0 6 17 by decide) (ct_Fi_found (gf_xl X) E 5 μ (by omega)) rfl ⟨rfl, rfl, rfl, rfl⟩ (Nat.le_of_ble_eq_true rfl) rfl dd_Fi_renew_6 (fun r6 m6 hR6 hp6 => ?_)
    refine gf_iret C hQ dd_Fi_renew_9 (by omega) ?_
    exact ⟨fun _ => hp6, fun h => by omega⟩

theorem dd_Fi_refusedPlace_0 : decode cc_Fi_refusedPlace 0 = .ok (.iload_n 1, 1) := by decide +kernel
theorem dd_Fi_refusedPlace_1 : decode cc_Fi_refusedPlace 1 = .ok (.bipush 6, 2) := by decide +kernel
theorem dd_Fi_refusedPlace_3 : decode cc_Fi_refusedPlace 3 = .ok (.invokestatic 78, 3) := by decide +kernel
theorem dd_Fi_refusedPlace_6 : decode cc_Fi_refusedPlace 6 = .ok (.ifCond .ne 5, 3) := by decide +kernel
theorem dd_Fi_refusedPlace_9 : decode cc_Fi_refusedPlace 9 = .ok (.iconst (-1), 1) := by decide +kernel
theorem dd_Fi_refusedPlace_10 : decode cc_Fi_refusedPlace 10 = .ok (.ireturn, 1) := by decide +kernel
theorem dd_Fi_refusedPlace_11 : decode cc_Fi_refusedPlace 11 = .ok (.aload_n 0, 1) := by decide +kernel
theorem dd_Fi_refusedPlace_12 : decode cc_Fi_refusedPlace 12 = .ok (.getfield 11, 3) := by decide +kernel
theorem dd_Fi_refusedPlace_15 : decode cc_Fi_refusedPlace 15 = .ok (.iload_n 1, 1) := by decide +kernel
theorem dd_Fi_refusedPlace_16 : decode cc_Fi_refusedPlace 16 = .ok (.aaload, 1) := by decide +kernel
theorem dd_Fi_refusedPlace_17 : decode cc_Fi_refusedPlace 17 = .ok (.invokevirtual 100, 3) := by decide +kernel
theorem dd_Fi_refusedPlace_20 : decode cc_Fi_refusedPlace 20 = .ok (.ifCond .ne 9, 3) := by decide +kernel
theorem dd_Fi_refusedPlace_23 : decode cc_Fi_refusedPlace 23 = .ok (.aload_n 0, 1) := by decide +kernel
theorem dd_Fi_refusedPlace_24 : decode cc_Fi_refusedPlace 24 = .ok (.iconst 1, 1) := by decide +kernel
theorem dd_Fi_refusedPlace_25 : decode cc_Fi_refusedPlace 25 = .ok (.invokevirtual 104, 3) := by decide +kernel
theorem dd_Fi_refusedPlace_28 : decode cc_Fi_refusedPlace 28 = .ok (.ireturn, 1) := by decide +kernel
theorem dd_Fi_refusedPlace_29 : decode cc_Fi_refusedPlace 29 = .ok (.aload_n 0, 1) := by decide +kernel
theorem dd_Fi_refusedPlace_30 : decode cc_Fi_refusedPlace 30 = .ok (.getfield 11, 3) := by decide +kernel
theorem dd_Fi_refusedPlace_33 : decode cc_Fi_refusedPlace 33 = .ok (.iload_n 1, 1) := by decide +kernel
theorem dd_Fi_refusedPlace_34 : decode cc_Fi_refusedPlace 34 = .ok (.aaload, 1) := by decide +kernel
theorem dd_Fi_refusedPlace_35 : decode cc_Fi_refusedPlace 35 = .ok (.iload_n 2, 1) := by decide +kernel
theorem dd_Fi_refusedPlace_36 : decode cc_Fi_refusedPlace 36 = .ok (.iconst 1, 1) := by decide +kernel
theorem dd_Fi_refusedPlace_37 : decode cc_Fi_refusedPlace 37 = .ok (.invokevirtual 111, 3) := by decide +kernel
theorem dd_Fi_refusedPlace_40 : decode cc_Fi_refusedPlace 40 = .ok (.ifCond .eq 7, 3) := by decide +kernel
theorem dd_Fi_refusedPlace_43 : decode cc_Fi_refusedPlace 43 = .ok (.iconst 0, 1) := by decide +kernel
theorem dd_Fi_refusedPlace_44 : decode cc_Fi_refusedPlace 44 = .ok (.goto 8, 3) := by decide +kernel
theorem dd_Fi_refusedPlace_47 : decode cc_Fi_refusedPlace 47 = .ok (.aload_n 0, 1) := by decide +kernel
theorem dd_Fi_refusedPlace_48 : decode cc_Fi_refusedPlace 48 = .ok (.iconst 2, 1) := by decide +kernel
theorem dd_Fi_refusedPlace_49 : decode cc_Fi_refusedPlace 49 = .ok (.invokevirtual 104, 3) := by decide +kernel
theorem dd_Fi_refusedPlace_52 : decode cc_Fi_refusedPlace 52 = .ok (.ireturn, 1) := by decide +kernel
set_option maxRecDepth 100000 in
set_option maxHeartbeats 4000000 in
theorem ct_Fi_refusedPlace (l : Launch) (E : gf_E) (r i : Int) (μ : gf_M) (hr : gf_R r) (hi : gf_R i) (hrw : ∀ r : Int, 0 ≤ r → r < 6 → -1 ≤ μ (2 + 2 * r) 1 ∧ μ (2 + 2 * r) 1 ≤ 40) : gf_Mi l E yy_Fi_refusedPlace cc_Fi_refusedPlace 3 .int (gf_rm 1 22) 81 gf_ref μ [.ref (gf_ad E 0), .int (gf_i r), .int (gf_i i)] (fun q μ' => (¬ (0 ≤ r ∧ r < 6) → q = -1 ∧ μ' = μ) ∧ (0 ≤ r ∧ r < 6 → (μ (2 + 2 * r) 1 = -1 → q = -3 ∧ μ' = gf_fd μ 1) ∧ (μ (2 + 2 * r) 1 ≠ -1 → (¬ (0 ≤ i ∧ i < μ (2 + 2 * r) 1) → q = -3 ∧ μ' = gf_fd μ 2) ∧ (0 ≤ i ∧ i < μ (2 + 2 * r) 1 → q = 0 ∧ μ' = μ)))) := by
  refine gf_mi (by decide +kernel) (Nat.le_of_ble_eq_true rfl) (by decide) (fun X Q hlx C hQ => ?_)
  subst hlx
  replace C : gf_C X E cc_Fi_refusedPlace 3 "GuardFigures" (gf_rm 1 22) := C
  show gf_G X E Q 3 gf_φ μ 0 [(0, .ref (gf_ad E 0)), (1, .int (gf_i r)), (2, .int (gf_i i))] []
  refine gf_iload_n C dd_Fi_refusedPlace_0 1 rfl ?_
  refine gf_bipush C dd_Fi_refusedPlace_1 (by decide +kernel) ?_
  refine gf_callSi (st := []) (As := [.int (gf_i r), .int (gf_i 6)]) C wk_Fi_78 (ct_Fi_isWithin (gf_xl X) E r 6 μ (by omega) (by omega)) rfl ⟨rfl, rfl, rfl, rfl⟩ (Nat.le_of_ble_eq_true rfl) rfl dd_Fi_refusedPlace_3 (fun r3 m3 hR3 hp3 => ?_)
  have hr3 := hp3.1
  refine gf_pm hp3.2 ?_
  refine gf_if_ne 11 C dd_Fi_refusedPlace_6 (by decide) (by omega) (fun h6 => ?_) (fun h6 => ?_)
  · skip
    have hin : 0 ≤ r ∧ r < 6 := by have := hr3.1; have := hr3.2; omega
    have hrr := hrw r hin.1 hin.2
    refine gf_aload_n C dd_Fi_refusedPlace_11 0 rfl ?_
    refine gf_getA (r := 1) C gf_cl6 fl_Fi_11 dd_Fi_refusedPlace_12 rfl (show gf_is 81 0 0 6 17 by decide) (by decide) (by decide) ?_
    refine gf_iload_n C dd_Fi_refusedPlace_15 1 rfl ?_
    have ha16 := gf_row_of (r := r) (by omega)
    refine gf_aald C dd_Fi_refusedPlace_16 (show gf_is 81 1 4 3 6 by decide) (by decide) (by omega) ha16.1 (by omega) ?_
    refine gf_callVi (st := []) (As := []) C wk_Fi_100 gf_cl3 ha16.2.1 (ct_Ro_isThere (gf_xl X) E (2 + 2 * r) 40 μ ha16.2) rfl ⟨rfl, rfl, rfl, rfl⟩ (Nat.le_of_ble_eq_true rfl) rfl dd_Fi_refusedPlace_17 (fun r17 m17 hR17 hp17 => ?_)
    have hr17 := hp17.1
    refine gf_pm hp17.2 ?_
    refine gf_if_ne 29 C dd_Fi_refusedPlace_20 (by decide) (by omega) (fun h20 => ?_) (fun h20 => ?_)
    · skip
      have hth : μ (2 + 2 * r) 1 ≠ -1 := by have := hr17.1; omega
      refine gf_aload_n C dd_Fi_refusedPlace_29 0 rfl ?_
      refine gf_getA (r := 1) C gf_cl6 fl_Fi_11 dd_Fi_refusedPlace_30 rfl (show gf_is 81 0 0 6 17 by decide) (by decide) (by decide) ?_
      refine gf_iload_n C dd_Fi_refusedPlace_33 1 rfl ?_
      have ha34 := gf_row_of (r := r) (by omega)
      refine gf_aald C dd_Fi_refusedPlace_34 (show gf_is 81 1 4 3 6 by decide) (by decide) (by omega) ha34.1 (by omega) ?_
      refine gf_iload_n C dd_Fi_refusedPlace_35 2 rfl ?_
      refine gf_iconst C dd_Fi_refusedPlace_36 ?_
      refine gf_callVi (st := []) (As := [.int (gf_i i), .int (gf_i 1)]) C wk_Fi_111 gf_cl3 ha34.2.1 (ct_Ro_hasPlaces (gf_xl X) E (2 + 2 * r) 40 μ ha34.2 i 1 (by omega) (by omega) (by omega)) rfl ⟨rfl, rfl, rfl, rfl⟩ (Nat.le_of_ble_eq_true rfl) rfl dd_Fi_refusedPlace_37 (fun r37 m37 hR37 hp37 => ?_)
      have hr37 := hp37.1
      refine gf_pm hp37.2 ?_
      refine gf_if_eq 47 C dd_Fi_refusedPlace_40 (by decide) (by omega) (fun h40 => ?_) (fun h40 => ?_)
      · skip
        have hpl : ¬ (0 ≤ i ∧ i < μ (2 + 2 * r) 1) := by have := hr37.1; omega
        refine gf_aload_n C dd_Fi_refusedPlace_47 0 rfl ?_
        refine gf_iconst C dd_Fi_refusedPlace_48 ?_
        refine gf_callVi (st := []) (As := [.int (gf_i 2)]) C wk_Fi_104 gf_cl6 (show gf_is 81 0 0 6 17 by decide) (ct_Fi_found (gf_xl X) E 2 μ (by omega)) rfl ⟨rfl, rfl, rfl, rfl⟩ (Nat.le_of_ble_eq_true rfl) rfl dd_Fi_refusedPlace_49 (fun r49 m49 hR49 hp49 => ?_)
        refine gf_iret C hQ dd_Fi_refusedPlace_52 (by omega) ?_
        first | exact ⟨fun h => absurd hin h, fun _ => ⟨fun h => absurd h hth, fun _ => ⟨fun _ => hp49, fun h => absurd h hpl⟩⟩⟩ | exact ⟨fun h => absurd hin h, fun _ => ⟨fun h => absurd h hth, fun _ => ⟨fun h => absurd hpl h, fun _ => ⟨rfl, rfl⟩⟩⟩⟩
      · skip
        have hpl : 0 ≤ i ∧ i < μ (2 + 2 * r) 1 := by have := hr37.2; omega
        refine gf_iconst C dd_Fi_refusedPlace_43 ?_
        refine gf_goto 52 C dd_Fi_refusedPlace_44 (by decide) ?_
        refine gf_iret C hQ dd_Fi_refusedPlace_52 (by omega) ?_
        first | exact ⟨fun h => absurd hin h, fun _ => ⟨fun h => absurd h hth, fun _ => ⟨fun _ => hp49, fun h => absurd h hpl⟩⟩⟩ | exact ⟨fun h => absurd hin h, fun _ => ⟨fun h => absurd h hth, fun _ => ⟨fun h => absurd hpl h, fun _ => ⟨rfl, rfl⟩⟩⟩⟩
    · skip
      have hth : μ (2 + 2 * r) 1 = -1 := by have := hr17.2; omega
      refine gf_aload_n C dd_Fi_refusedPlace_23 0 rfl ?_
      refine gf_iconst C dd_Fi_refusedPlace_24 ?_
      refine gf_callVi (st := []) (As := [.int (gf_i 1)]) C wk_Fi_104 gf_cl6 (show gf_is 81 0 0 6 17 by decide) (ct_Fi_found (gf_xl X) E 1 μ (by omega)) rfl ⟨rfl, rfl, rfl, rfl⟩ (Nat.le_of_ble_eq_true rfl) rfl dd_Fi_refusedPlace_25 (fun r25 m25 hR25 hp25 => ?_)
      refine gf_iret C hQ dd_Fi_refusedPlace_28 (by omega) ?_
      exact ⟨fun h => absurd hin h, fun _ => ⟨fun _ => hp25, fun h => absurd hth h⟩⟩
  · skip
    have hin : ¬ (0 ≤ r ∧ r < 6) := by have := hr3.1; have := hr3.2; omega
    refine gf_iconst C dd_Fi_refusedPlace_9 ?_
    refine gf_iret C hQ dd_Fi_refusedPlace_10 (by omega) ?_
    exact ⟨fun _ => ⟨rfl, rfl⟩, fun h => absurd h hin⟩

theorem dd_Fi_asNumber_0 : decode cc_Fi_asNumber 0 = .ok (.iconst 0, 1) := by decide +kernel
theorem dd_Fi_asNumber_1 : decode cc_Fi_asNumber 1 = .ok (.istore_n 2, 1) := by decide +kernel
theorem dd_Fi_asNumber_2 : decode cc_Fi_asNumber 2 = .ok (.iconst 0, 1) := by decide +kernel
theorem dd_Fi_asNumber_3 : decode cc_Fi_asNumber 3 = .ok (.istore_n 3, 1) := by decide +kernel
theorem dd_Fi_asNumber_4 : decode cc_Fi_asNumber 4 = .ok (.iload_n 3, 1) := by decide +kernel
theorem dd_Fi_asNumber_5 : decode cc_Fi_asNumber 5 = .ok (.iload_n 1, 1) := by decide +kernel
theorem dd_Fi_asNumber_6 : decode cc_Fi_asNumber 6 = .ok (.if_icmp .ge 18, 3) := by decide +kernel
theorem dd_Fi_asNumber_9 : decode cc_Fi_asNumber 9 = .ok (.iload_n 2, 1) := by decide +kernel
theorem dd_Fi_asNumber_10 : decode cc_Fi_asNumber 10 = .ok (.bipush 10, 2) := by decide +kernel
theorem dd_Fi_asNumber_12 : decode cc_Fi_asNumber 12 = .ok (.imul, 1) := by decide +kernel
theorem dd_Fi_asNumber_13 : decode cc_Fi_asNumber 13 = .ok (.aload_n 0, 1) := by decide +kernel
theorem dd_Fi_asNumber_14 : decode cc_Fi_asNumber 14 = .ok (.iload_n 3, 1) := by decide +kernel
theorem dd_Fi_asNumber_15 : decode cc_Fi_asNumber 15 = .ok (.iaload, 1) := by decide +kernel
theorem dd_Fi_asNumber_16 : decode cc_Fi_asNumber 16 = .ok (.iadd, 1) := by decide +kernel
theorem dd_Fi_asNumber_17 : decode cc_Fi_asNumber 17 = .ok (.istore_n 2, 1) := by decide +kernel
theorem dd_Fi_asNumber_18 : decode cc_Fi_asNumber 18 = .ok (.iinc 3 1, 3) := by decide +kernel
theorem dd_Fi_asNumber_21 : decode cc_Fi_asNumber 21 = .ok (.goto (-17), 3) := by decide +kernel
theorem dd_Fi_asNumber_24 : decode cc_Fi_asNumber 24 = .ok (.iload_n 2, 1) := by decide +kernel
theorem dd_Fi_asNumber_25 : decode cc_Fi_asNumber 25 = .ok (.ireturn, 1) := by decide +kernel
set_option maxRecDepth 100000 in
set_option maxHeartbeats 4000000 in
theorem ct_Fi_asNumber (l : Launch) (E : gf_E) (a n : Int) (N : Nat) (μ : gf_M) (ha : gf_is 81 a 1 0 N) (hn : 0 ≤ n ∧ n ≤ 8 ∧ n ≤ (N : Int)) (hF : gf_okF μ a n) : gf_Mi l E yy_Fi_asNumber cc_Fi_asNumber 4 .int (gf_rm 0 0) 81 gf_ref μ [.ref (gf_ad E a), .int (gf_i n)] (fun r μ' => (r = pf_num (μ a) n.toNat ∧ 0 ≤ r ∧ r ≤ 100000000) ∧ μ' = μ) := by
  refine gf_mi (by decide +kernel) (Nat.le_of_ble_eq_true rfl) (by decide) (fun X Q hlx C hQ => ?_)
  subst hlx
  replace C : gf_C X E cc_Fi_asNumber 4 "GuardFigures" (gf_rm 0 0) := C
  show gf_G X E Q 4 gf_φ μ 0 [(0, .ref (gf_ad E a)), (1, .int (gf_i n))] []
  refine gf_iconst C dd_Fi_asNumber_0 ?_
  refine gf_istore_n (lv' := [(2, .int (gf_i 0)), (0, .ref (gf_ad E a)), (1, .int (gf_i n))]) C dd_Fi_asNumber_1 (by decide) rfl ?_
  refine gf_iconst C dd_Fi_asNumber_2 ?_
  refine gf_istore_n (lv' := [(3, .int (gf_i 0)), (2, .int (gf_i 0)), (0, .ref (gf_ad E a)), (1, .int (gf_i n))]) C dd_Fi_asNumber_3 (by decide) rfl ?_
  have L4_1 : ∀ (N : Nat) (v i : Int) , (0 ≤ i ∧ i ≤ n ∧ v = pf_num (μ a) i.toNat) → (n - i).toNat < N → gf_G X E Q 4 gf_φ μ 4 [(2, .int (gf_i v)), (3, .int (gf_i i)), (0, .ref (gf_ad E a)), (1, .int (gf_i n))] [] := by
    intro N
    induction N with
    | zero => intro v i hinv hN; exact absurd hN (Nat.not_lt_zero _)
    | succ N ih4_1 =>
      intro v i hinv hN
      have hinv0 := hinv
      obtain ⟨hi0, hi1, hv⟩ := hinv
      have hB := pf_num_R (f := μ a) i.toNat (fun j h0 h1 => hF j h0 (by omega))
      rw [← hv] at hB
      have h10 := pf_10_8 (k := i.toNat) (by omega)
      refine gf_iload_n C dd_Fi_asNumber_4 1 rfl ?_
      refine gf_iload_n C dd_Fi_asNumber_5 3 rfl ?_
      refine gf_icmp_ge 24 C dd_Fi_asNumber_6 (by decide) (by omega) (by omega) (fun h6 => ?_) (fun h6 => ?_)
      · skip
        refine gf_iload_n C dd_Fi_asNumber_24 0 rfl ?_
        refine gf_iret C hQ dd_Fi_asNumber_25 (by omega) ?_
        exact ⟨⟨by rw [hv, show i = n by omega], by omega, by omega⟩, rfl⟩
      · skip
        refine gf_iload_n C dd_Fi_asNumber_9 0 rfl ?_
        refine gf_bipush C dd_Fi_asNumber_10 (by decide +kernel) ?_
        refine gf_imul C dd_Fi_asNumber_12 ?_
        refine gf_aload_n C dd_Fi_asNumber_13 2 rfl ?_
        refine gf_iload_n C dd_Fi_asNumber_14 1 rfl ?_
        refine gf_iald C dd_Fi_asNumber_15 ha (by omega) (fun hv15 => ?_)
        refine gf_iadd C dd_Fi_asNumber_16 ?_
        refine gf_nm (fun x17 hx17 => ?_)
        refine gf_istore_n (lv' := [(2, .int (gf_i x17)), (3, .int (gf_i i)), (0, .ref (gf_ad E a)), (1, .int (gf_i n))]) C dd_Fi_asNumber_17 (by decide) rfl ?_
        obtain ⟨x18, hx18⟩ : ∃ y : Int, y = i + 1 := ⟨_, rfl⟩
        refine gf_iinc (q := 1) (v := x18) (lv' := [(3, .int (gf_i x18)), (2, .int (gf_i x17)), (0, .ref (gf_ad E a)), (1, .int (gf_i n))]) C dd_Fi_asNumber_18 rfl hx18 (by decide) rfl ?_
        refine gf_goto 4 C dd_Fi_asNumber_21 (by decide) ?_
        refine gf_lsub [1, 0, 2, 3] rfl ?_
        exact ih4_1 x17 x18 (by
                refine ⟨by omega, by omega, ?_⟩
                rw [hx17, hx18, show (i + 1).toNat = i.toNat + 1 by omega, hv]
                show _ = pf_num _ _ * 10 + μ a ((i.toNat : Nat) : Int)
                rw [show ((i.toNat : Nat) : Int) = i by omega]) (by omega)
  refine gf_lsub [1, 0, 2, 3] rfl ?_
  exact L4_1 _ 0 0 (⟨by omega, by omega, rfl⟩) (Nat.lt_succ_self _)

theorem dd_Fi_reckoned_0 : decode cc_Fi_reckoned 0 = .ok (.aload_n 1, 1) := by decide +kernel
theorem dd_Fi_reckoned_1 : decode cc_Fi_reckoned 1 = .ok (.aload_n 0, 1) := by decide +kernel
theorem dd_Fi_reckoned_2 : decode cc_Fi_reckoned 2 = .ok (.getfield 35, 3) := by decide +kernel
theorem dd_Fi_reckoned_5 : decode cc_Fi_reckoned 5 = .ok (.getfield 169, 3) := by decide +kernel
theorem dd_Fi_reckoned_8 : decode cc_Fi_reckoned 8 = .ok (.aload_n 0, 1) := by decide +kernel
theorem dd_Fi_reckoned_9 : decode cc_Fi_reckoned 9 = .ok (.getfield 35, 3) := by decide +kernel
theorem dd_Fi_reckoned_12 : decode cc_Fi_reckoned 12 = .ok (.getfield 168, 3) := by decide +kernel
theorem dd_Fi_reckoned_15 : decode cc_Fi_reckoned 15 = .ok (.invokevirtual 314, 3) := by decide +kernel
theorem dd_Fi_reckoned_18 : decode cc_Fi_reckoned 18 = .ok (.ireturn, 1) := by decide +kernel
set_option maxRecDepth 100000 in
set_option maxHeartbeats 4000000 in
theorem ct_Fi_reckoned (l : Launch) (E : gf_E) (g : Int) (μ : gf_M) (hg : gf_oGd g) (hG : gf_okG μ g) (hs : 0 ≤ μ 41 1 ∧ μ 41 1 ≤ 8) (hF : gf_okF μ 42 (μ 41 1)) : gf_Mi l E yy_Fi_reckoned cc_Fi_reckoned 2 .int (gf_rm 3 69) 81 gf_ref μ [.ref (gf_ad E 0), .ref (gf_ad E g)] (fun r μ' => (r = pf_reck (μ g 0) (μ g 1) (μ g 2) (μ 42) (μ 41 1) ∧ 0 ≤ r ∧ r ≤ 10) ∧ μ' = μ) := by
  refine gf_mi (by decide +kernel) (Nat.le_of_ble_eq_true rfl) (by decide) (fun X Q hlx C hQ => ?_)
  subst hlx
  replace C : gf_C X E cc_Fi_reckoned 2 "GuardFigures" (gf_rm 3 69) := C
  show gf_G X E Q 2 gf_φ μ 0 [(0, .ref (gf_ad E 0)), (1, .ref (gf_ad E g))] []
  refine gf_aload_n C dd_Fi_reckoned_0 1 rfl ?_
  refine gf_aload_n C dd_Fi_reckoned_1 0 rfl ?_
  refine gf_getA (r := 41) C gf_cl6 fl_Fi_35 dd_Fi_reckoned_2 rfl (show gf_is 81 0 0 6 17 by decide) (by decide) (by decide) ?_
  refine gf_getA (r := 42) C gf_cl5 fl_Fi_169 dd_Fi_reckoned_5 rfl (show gf_is 81 41 0 5 5 by decide) (by decide) (by decide) ?_
  refine gf_aload_n C dd_Fi_reckoned_8 0 rfl ?_
  refine gf_getA (r := 41) C gf_cl6 fl_Fi_35 dd_Fi_reckoned_9 rfl (show gf_is 81 0 0 6 17 by decide) (by decide) (by decide) ?_
  refine gf_getI (z := 1) C gf_cl5 fl_Fi_168 dd_Fi_reckoned_12 rfl rfl (show gf_is 81 41 0 5 5 by decide) (fun hv12 => ?_)
  refine gf_callVi (st := []) (As := [.ref (gf_ad E 42), .int (gf_i (μ 41 1))]) C wk_Fi_314 gf_cl0 hg (ct_Gd_reckon (gf_xl X) E g 42 (μ 41 1) 8 μ hg (hG) ((show gf_is 81 42 1 0 8 by decide)) (by omega) (hF)) rfl ⟨rfl, rfl, rfl, rfl⟩ (Nat.le_of_ble_eq_true rfl) rfl dd_Fi_reckoned_15 (fun r15 m15 hR15 hp15 => ?_)
  have hr15 := hp15.1
  refine gf_pm hp15.2 ?_
  refine gf_iret C hQ dd_Fi_reckoned_18 (by omega) ?_
  exact ⟨hr15, rfl⟩
end
section
def pf_apd (f : Int → Int) (n v : Int) : Int → Int := fun j => if j = n then v else f j
theorem dd_Fi_reckonedWith_0 : decode cc_Fi_reckonedWith 0 = .ok (.aload_n 0, 1) := by decide +kernel
theorem dd_Fi_reckonedWith_1 : decode cc_Fi_reckonedWith 1 = .ok (.getfield 35, 3) := by decide +kernel
theorem dd_Fi_reckonedWith_4 : decode cc_Fi_reckonedWith 4 = .ok (.getfield 168, 3) := by decide +kernel
theorem dd_Fi_reckonedWith_7 : decode cc_Fi_reckonedWith 7 = .ok (.istore_n 3, 1) := by decide +kernel
theorem dd_Fi_reckonedWith_8 : decode cc_Fi_reckonedWith 8 = .ok (.iload_n 3, 1) := by decide +kernel
theorem dd_Fi_reckonedWith_9 : decode cc_Fi_reckonedWith 9 = .ok (.aload_n 0, 1) := by decide +kernel
theorem dd_Fi_reckonedWith_10 : decode cc_Fi_reckonedWith 10 = .ok (.getfield 64, 3) := by decide +kernel
theorem dd_Fi_reckonedWith_13 : decode cc_Fi_reckonedWith 13 = .ok (.arraylength, 1) := by decide +kernel
theorem dd_Fi_reckonedWith_14 : decode cc_Fi_reckonedWith 14 = .ok (.if_icmp .lt 6, 3) := by decide +kernel
theorem dd_Fi_reckonedWith_17 : decode cc_Fi_reckonedWith 17 = .ok (.bipush (-9), 2) := by decide +kernel
theorem dd_Fi_reckonedWith_19 : decode cc_Fi_reckonedWith 19 = .ok (.ireturn, 1) := by decide +kernel
theorem dd_Fi_reckonedWith_20 : decode cc_Fi_reckonedWith 20 = .ok (.aload_n 0, 1) := by decide +kernel
theorem dd_Fi_reckonedWith_21 : decode cc_Fi_reckonedWith 21 = .ok (.getfield 35, 3) := by decide +kernel
theorem dd_Fi_reckonedWith_24 : decode cc_Fi_reckonedWith 24 = .ok (.getfield 169, 3) := by decide +kernel
theorem dd_Fi_reckonedWith_27 : decode cc_Fi_reckonedWith 27 = .ok (.iconst 0, 1) := by decide +kernel
theorem dd_Fi_reckonedWith_28 : decode cc_Fi_reckonedWith 28 = .ok (.aload_n 0, 1) := by decide +kernel
theorem dd_Fi_reckonedWith_29 : decode cc_Fi_reckonedWith 29 = .ok (.getfield 64, 3) := by decide +kernel
theorem dd_Fi_reckonedWith_32 : decode cc_Fi_reckonedWith 32 = .ok (.iconst 0, 1) := by decide +kernel
theorem dd_Fi_reckonedWith_33 : decode cc_Fi_reckonedWith 33 = .ok (.iload_n 3, 1) := by decide +kernel
theorem dd_Fi_reckonedWith_34 : decode cc_Fi_reckonedWith 34 = .ok (.invokestatic 114, 3) := by decide +kernel
theorem dd_Fi_reckonedWith_37 : decode cc_Fi_reckonedWith 37 = .ok (.aload_n 0, 1) := by decide +kernel
theorem dd_Fi_reckonedWith_38 : decode cc_Fi_reckonedWith 38 = .ok (.getfield 64, 3) := by decide +kernel
theorem dd_Fi_reckonedWith_41 : decode cc_Fi_reckonedWith 41 = .ok (.iload_n 3, 1) := by decide +kernel
theorem dd_Fi_reckonedWith_42 : decode cc_Fi_reckonedWith 42 = .ok (.iload_n 2, 1) := by decide +kernel
theorem dd_Fi_reckonedWith_43 : decode cc_Fi_reckonedWith 43 = .ok (.iastore, 1) := by decide +kernel
theorem dd_Fi_reckonedWith_44 : decode cc_Fi_reckonedWith 44 = .ok (.aload_n 1, 1) := by decide +kernel
theorem dd_Fi_reckonedWith_45 : decode cc_Fi_reckonedWith 45 = .ok (.aload_n 0, 1) := by decide +kernel
theorem dd_Fi_reckonedWith_46 : decode cc_Fi_reckonedWith 46 = .ok (.getfield 64, 3) := by decide +kernel
theorem dd_Fi_reckonedWith_49 : decode cc_Fi_reckonedWith 49 = .ok (.iload_n 3, 1) := by decide +kernel
theorem dd_Fi_reckonedWith_50 : decode cc_Fi_reckonedWith 50 = .ok (.iconst 1, 1) := by decide +kernel
theorem dd_Fi_reckonedWith_51 : decode cc_Fi_reckonedWith 51 = .ok (.iadd, 1) := by decide +kernel
theorem dd_Fi_reckonedWith_52 : decode cc_Fi_reckonedWith 52 = .ok (.invokevirtual 314, 3) := by decide +kernel
theorem dd_Fi_reckonedWith_55 : decode cc_Fi_reckonedWith 55 = .ok (.ireturn, 1) := by decide +kernel
set_option maxRecDepth 100000 in
set_option maxHeartbeats 4000000 in
theorem ct_Fi_reckonedWith (l : Launch) (E : gf_E) (g f : Int) (μ : gf_M) (hg : gf_oGd g) (hg61 : g ≠ 62) (hG : gf_okG μ g) (hf : 0 ≤ f ∧ f ≤ 9) (hs : 0 ≤ μ 41 1 ∧ μ 41 1 < 8) (hF : gf_okF μ 42 (μ 41 1)) : gf_Mi l E yy_Fi_reckonedWith cc_Fi_reckonedWith 4 .int (gf_rm 3 69) 81 gf_ref μ [.ref (gf_ad E 0), .ref (gf_ad E g), .int (gf_i f)] (fun r μ' => (r = pf_reck (μ g 0) (μ g 1) (μ g 2) (pf_apd (μ 42) (μ 41 1) f) (μ 41 1 + 1) ∧ 0 ≤ r ∧ r ≤ 10) ∧ ∀ x y : Int, x ≠ 62 → μ' x y = μ x y) := by
  refine gf_mi (by decide +kernel) (Nat.le_of_ble_eq_true rfl) (by decide) (fun X Q hlx C hQ => ?_)
  subst hlx
  replace C : gf_C X E cc_Fi_reckonedWith 4 "GuardFigures" (gf_rm 3 69) := C
  show gf_G X E Q 4 gf_φ μ 0 [(0, .ref (gf_ad E 0)), (1, .ref (gf_ad E g)), (2, .int (gf_i f))] []
  refine gf_aload_n C dd_Fi_reckonedWith_0 0 rfl ?_
  refine gf_getA (r := 41) C gf_cl6 fl_Fi_35 dd_Fi_reckonedWith_1 rfl (show gf_is 81 0 0 6 17 by decide) (by decide) (by decide) ?_
  refine gf_getI (z := 1) C gf_cl5 fl_Fi_168 dd_Fi_reckonedWith_4 rfl rfl (show gf_is 81 41 0 5 5 by decide) (fun hv4 => ?_)
  refine gf_nm (fun x7 hx7 => ?_)
  refine gf_istore_n (lv' := [(3, .int (gf_i x7)), (0, .ref (gf_ad E 0)), (1, .ref (gf_ad E g)), (2, .int (gf_i f))]) C dd_Fi_reckonedWith_7 (by decide) rfl ?_
  refine gf_iload_n C dd_Fi_reckonedWith_8 0 rfl ?_
  refine gf_aload_n C dd_Fi_reckonedWith_9 1 rfl ?_
  refine gf_getA (r := 62) C gf_cl6 fl_Fi_64 dd_Fi_reckonedWith_10 rfl (show gf_is 81 0 0 6 17 by decide) (by decide) (by decide) ?_
  refine gf_alen 1 C dd_Fi_reckonedWith_13 (show gf_is 81 62 1 0 8 by decide) (by decide) ?_
  refine gf_icmp_lt 20 C dd_Fi_reckonedWith_14 (by decide) (by omega) (by omega) (fun h14 => ?_) (fun h14 => ?_)
  · skip
    refine gf_aload_n C dd_Fi_reckonedWith_20 1 rfl ?_
    refine gf_getA (r := 41) C gf_cl6 fl_Fi_35 dd_Fi_reckonedWith_21 rfl (show gf_is 81 0 0 6 17 by decide) (by decide) (by decide) ?_
    refine gf_getA (r := 42) C gf_cl5 fl_Fi_169 dd_Fi_reckonedWith_24 rfl (show gf_is 81 41 0 5 5 by decide) (by decide) (by decide) ?_
    refine gf_iconst C dd_Fi_reckonedWith_27 ?_
    refine gf_aload_n C dd_Fi_reckonedWith_28 1 rfl ?_
    refine gf_getA (r := 62) C gf_cl6 fl_Fi_64 dd_Fi_reckonedWith_29 rfl (show gf_is 81 0 0 6 17 by decide) (by decide) (by decide) ?_
    refine gf_iconst C dd_Fi_reckonedWith_32 ?_
    refine gf_iload_n C dd_Fi_reckonedWith_33 0 rfl ?_
    refine gf_copy (x := 0) (y := 0) (n := x7) rfl C (gf_mem 333 (by decide +kernel) (by decide +kernel)) gf_wCp.1 gf_wCp.2.1 gf_wCp.2.2 (by decide) (by decide +kernel) dd_Fi_reckonedWith_34 (show gf_is 81 42 1 0 8 by decide) (show gf_is 81 62 1 0 8 by decide) (by omega) ?_
    refine gf_nmM (fun m34 hm34 => ?_)
    refine gf_aload_n C dd_Fi_reckonedWith_37 1 rfl ?_
    refine gf_getA (r := 62) C gf_cl6 fl_Fi_64 dd_Fi_reckonedWith_38 rfl (show gf_is 81 0 0 6 17 by decide) (by decide) (by decide) ?_
    refine gf_iload_n C dd_Fi_reckonedWith_41 0 rfl ?_
    refine gf_iload_n C dd_Fi_reckonedWith_42 3 rfl ?_
    refine gf_iast C dd_Fi_reckonedWith_43 (show gf_is 81 62 1 0 8 by decide) (by omega) (by omega) ?_
    refine gf_nmM (fun m43 hm43 => ?_)
    have e43 : ∀ x y : Int, x ≠ 62 → m43 x y = μ x y := fun x y h => by rw [hm43, gf_up_k h, hm34]; simp [gf_cp, h]
    have c43 : ∀ j : Int, 0 ≤ j → j < x7 + 1 → m43 62 j = pf_apd (μ 42) (μ 41 1) f j := fun j h0 h1 => by
      rw [hm43]
      unfold pf_apd
      by_cases e : j = x7
      · rw [e, gf_up_s, if_pos hx7]
      · rw [gf_up_j e, if_neg (by omega), hm34]
        unfold gf_cp
        rw [if_pos ⟨rfl, by omega, by omega⟩]
        congr 1
        omega
    have hG43 : gf_okG m43 g := by unfold gf_okG; rw [e43 g 0 hg61, e43 g 1 hg61, e43 g 2 hg61]; exact hG
    have hF43 : gf_okF m43 62 (x7 + 1) := fun j h0 h1 => by
      rw [c43 j h0 h1]
      unfold pf_apd
      split
      · exact hf
      · exact hF j h0 (by omega)
    refine gf_aload_n C dd_Fi_reckonedWith_44 2 rfl ?_
    refine gf_aload_n C dd_Fi_reckonedWith_45 1 rfl ?_
    refine gf_getA (r := 62) C gf_cl6 fl_Fi_64 dd_Fi_reckonedWith_46 rfl (show gf_is 81 0 0 6 17 by decide) (by decide) (by decide) ?_
    refine gf_iload_n C dd_Fi_reckonedWith_49 0 rfl ?_
    refine gf_iconst C dd_Fi_reckonedWith_50 ?_
    refine gf_iadd C dd_Fi_reckonedWith_51 ?_
    refine gf_callVi (st := []) (As := [.ref (gf_ad E 62), .int (gf_i (x7 + 1))]) C wk_Fi_314 gf_cl0 hg (ct_Gd_reckon (gf_xl X) E g 62 (x7 + 1) 8 m43 hg (hG43) ((show gf_is 81 62 1 0 8 by decide)) (by omega) (hF43)) rfl ⟨rfl, rfl, rfl, rfl⟩ (Nat.le_of_ble_eq_true rfl) rfl dd_Fi_reckonedWith_52 (fun r52 m52 hR52 hp52 => ?_)
    have hr52 := hp52.1
    refine gf_pm hp52.2 ?_
    refine gf_iret C hQ dd_Fi_reckonedWith_55 (by omega) ?_
    refine ⟨⟨?_, by omega, by omega⟩, e43⟩
    rw [hr52.1, e43 g 0 hg61, e43 g 1 hg61, e43 g 2 hg61, hx7]
    exact pf_reck_congr (fun j h0 h1 => c43 j h0 (by omega))
  · skip
    refine gf_bipush C dd_Fi_reckonedWith_17 (by decide +kernel) ?_
    refine gf_iret C hQ dd_Fi_reckonedWith_19 (by omega) ?_
    omega
end
