section
-- ===== PART A: goes FIRST, ahead of the names: the tables' words, and 'selects' of the private methods out of them =====
/-- a private method of a class that the tables say can be made, by its rows of tables_1 -/
def lw_okq (q : MethodName × Nat) : Prop := (q.1.cls ≠ "java/lang/invoke/MethodHandle" ∧ q.1.cls ≠ "java/lang/invoke/VarHandle") ∧ Cond.instantiable q.1.cls q.2 ∈ tables_1 ∧ Cond.privateMethod q.1 ∈ tables_1 ∧ Cond.instanceMethod q.1 ∈ tables_1
theorem lw_p0 : lw_okq (⟨"PurseCard$Sealer", "growRoundKeys", "()V"⟩, 6) := ⟨⟨by decide +kernel, by decide +kernel⟩, List.mem_of_getElem? (i := 67) (by decide +kernel), List.mem_of_getElem? (i := 79) (by decide +kernel), List.mem_of_getElem? (i := 80) (by decide +kernel)⟩
theorem lw_p1 : lw_okq (⟨"PurseCard$Sealer", "encipher", "()V"⟩, 6) := ⟨⟨by decide +kernel, by decide +kernel⟩, List.mem_of_getElem? (i := 67) (by decide +kernel), List.mem_of_getElem? (i := 91) (by decide +kernel), List.mem_of_getElem? (i := 92) (by decide +kernel)⟩
theorem lw_p2 : lw_okq (⟨"PurseCard$Sealer", "combineRoundKey", "(I)V"⟩, 6) := ⟨⟨by decide +kernel, by decide +kernel⟩, List.mem_of_getElem? (i := 67) (by decide +kernel), List.mem_of_getElem? (i := 95) (by decide +kernel), List.mem_of_getElem? (i := 96) (by decide +kernel)⟩
theorem lw_p3 : lw_okq (⟨"PurseCard$Sealer", "substituteAndTurn", "()V"⟩, 6) := ⟨⟨by decide +kernel, by decide +kernel⟩, List.mem_of_getElem? (i := 67) (by decide +kernel), List.mem_of_getElem? (i := 99) (by decide +kernel), List.mem_of_getElem? (i := 100) (by decide +kernel)⟩
theorem lw_p4 : lw_okq (⟨"PurseCard$Sealer", "mixColumns", "()V"⟩, 6) := ⟨⟨by decide +kernel, by decide +kernel⟩, List.mem_of_getElem? (i := 67) (by decide +kernel), List.mem_of_getElem? (i := 106) (by decide +kernel), List.mem_of_getElem? (i := 107) (by decide +kernel)⟩
theorem lw_p5 : lw_okq (⟨"PurseCard$Card", "firstFault", "(LPurseCard$Row;)I"⟩, 10) := ⟨⟨by decide +kernel, by decide +kernel⟩, List.mem_of_getElem? (i := 43) (by decide +kernel), List.mem_of_getElem? (i := 221) (by decide +kernel), List.mem_of_getElem? (i := 222) (by decide +kernel)⟩
theorem lw_p6 : lw_okq (⟨"PurseCard$Card", "fitsStage", "(I)Z"⟩, 10) := ⟨⟨by decide +kernel, by decide +kernel⟩, List.mem_of_getElem? (i := 43) (by decide +kernel), List.mem_of_getElem? (i := 248) (by decide +kernel), List.mem_of_getElem? (i := 249) (by decide +kernel)⟩
theorem lw_p7 : lw_okq (⟨"PurseCard$Card", "takesData", "(II)Z"⟩, 10) := ⟨⟨by decide +kernel, by decide +kernel⟩, List.mem_of_getElem? (i := 43) (by decide +kernel), List.mem_of_getElem? (i := 256) (by decide +kernel), List.mem_of_getElem? (i := 257) (by decide +kernel)⟩
theorem lw_p8 : lw_okq (⟨"PurseCard$Card", "select", "(LPurseCard$Row;LPurseCard$Row;)I"⟩, 10) := ⟨⟨by decide +kernel, by decide +kernel⟩, List.mem_of_getElem? (i := 43) (by decide +kernel), List.mem_of_getElem? (i := 261) (by decide +kernel), List.mem_of_getElem? (i := 262) (by decide +kernel)⟩
theorem lw_p9 : lw_okq (⟨"PurseCard$Card", "ready", "(LPurseCard$Row;LPurseCard$Row;)I"⟩, 10) := ⟨⟨by decide +kernel, by decide +kernel⟩, List.mem_of_getElem? (i := 43) (by decide +kernel), List.mem_of_getElem? (i := 287) (by decide +kernel), List.mem_of_getElem? (i := 288) (by decide +kernel)⟩
theorem lw_p10 : lw_okq (⟨"PurseCard$Card", "read", "(LPurseCard$Row;LPurseCard$Row;)I"⟩, 10) := ⟨⟨by decide +kernel, by decide +kernel⟩, List.mem_of_getElem? (i := 43) (by decide +kernel), List.mem_of_getElem? (i := 298) (by decide +kernel), List.mem_of_getElem? (i := 299) (by decide +kernel)⟩
theorem lw_p11 : lw_okq (⟨"PurseCard$Card", "prove", "(LPurseCard$Row;)I"⟩, 10) := ⟨⟨by decide +kernel, by decide +kernel⟩, List.mem_of_getElem? (i := 43) (by decide +kernel), List.mem_of_getElem? (i := 308) (by decide +kernel), List.mem_of_getElem? (i := 309) (by decide +kernel)⟩
theorem lw_p12 : lw_okq (⟨"PurseCard$Card", "tell", "(LPurseCard$Row;LPurseCard$Row;)I"⟩, 10) := ⟨⟨by decide +kernel, by decide +kernel⟩, List.mem_of_getElem? (i := 43) (by decide +kernel), List.mem_of_getElem? (i := 318) (by decide +kernel), List.mem_of_getElem? (i := 319) (by decide +kernel)⟩
theorem lw_p13 : lw_okq (⟨"PurseCard$Card", "giveSeal", "(LPurseCard$Row;LPurseCard$Row;)I"⟩, 10) := ⟨⟨by decide +kernel, by decide +kernel⟩, List.mem_of_getElem? (i := 43) (by decide +kernel), List.mem_of_getElem? (i := 324) (by decide +kernel), List.mem_of_getElem? (i := 325) (by decide +kernel)⟩
theorem lw_p14 : lw_okq (⟨"PurseCard$Card", "decide", "(IJJ)I"⟩, 10) := ⟨⟨by decide +kernel, by decide +kernel⟩, List.mem_of_getElem? (i := 43) (by decide +kernel), List.mem_of_getElem? (i := 328) (by decide +kernel), List.mem_of_getElem? (i := 329) (by decide +kernel)⟩
theorem lw_p15 : lw_okq (⟨"PurseCard", "placeOfSized", "(II)I"⟩, 5) := ⟨⟨by decide +kernel, by decide +kernel⟩, List.mem_of_getElem? (i := 11) (by decide +kernel), List.mem_of_getElem? (i := 411) (by decide +kernel), List.mem_of_getElem? (i := 412) (by decide +kernel)⟩
def lw_privs_1 : List (MethodName × Nat) := [(⟨"PurseCard$Sealer", "growRoundKeys", "()V"⟩, 6), (⟨"PurseCard$Sealer", "encipher", "()V"⟩, 6), (⟨"PurseCard$Sealer", "combineRoundKey", "(I)V"⟩, 6), (⟨"PurseCard$Sealer", "substituteAndTurn", "()V"⟩, 6), (⟨"PurseCard$Sealer", "mixColumns", "()V"⟩, 6), (⟨"PurseCard$Card", "firstFault", "(LPurseCard$Row;)I"⟩, 10), (⟨"PurseCard$Card", "fitsStage", "(I)Z"⟩, 10), (⟨"PurseCard$Card", "takesData", "(II)Z"⟩, 10), (⟨"PurseCard$Card", "select", "(LPurseCard$Row;LPurseCard$Row;)I"⟩, 10), (⟨"PurseCard$Card", "ready", "(LPurseCard$Row;LPurseCard$Row;)I"⟩, 10), (⟨"PurseCard$Card", "read", "(LPurseCard$Row;LPurseCard$Row;)I"⟩, 10), (⟨"PurseCard$Card", "prove", "(LPurseCard$Row;)I"⟩, 10), (⟨"PurseCard$Card", "tell", "(LPurseCard$Row;LPurseCard$Row;)I"⟩, 10), (⟨"PurseCard$Card", "giveSeal", "(LPurseCard$Row;LPurseCard$Row;)I"⟩, 10), (⟨"PurseCard$Card", "decide", "(IJJ)I"⟩, 10), (⟨"PurseCard", "placeOfSized", "(II)I"⟩, 5)]
theorem lw_r1 : ∀ q ∈ lw_privs_1, lw_okq q := List.forall_mem_cons.mpr ⟨lw_p0, List.forall_mem_cons.mpr ⟨lw_p1, List.forall_mem_cons.mpr ⟨lw_p2, List.forall_mem_cons.mpr ⟨lw_p3, List.forall_mem_cons.mpr ⟨lw_p4, List.forall_mem_cons.mpr ⟨lw_p5, List.forall_mem_cons.mpr ⟨lw_p6, List.forall_mem_cons.mpr ⟨lw_p7, List.forall_mem_cons.mpr ⟨lw_p8, List.forall_mem_cons.mpr ⟨lw_p9, List.forall_mem_cons.mpr ⟨lw_p10, List.forall_mem_cons.mpr ⟨lw_p11, List.forall_mem_cons.mpr ⟨lw_p12, List.forall_mem_cons.mpr ⟨lw_p13, List.forall_mem_cons.mpr ⟨lw_p14, List.forall_mem_cons.mpr ⟨lw_p15, fun _ h => absurd h List.not_mem_nil⟩⟩⟩⟩⟩⟩⟩⟩⟩⟩⟩⟩⟩⟩⟩⟩
theorem lw_p16 : lw_okq (⟨"PurseCard", "openPayment", "(J)I"⟩, 5) := ⟨⟨by decide +kernel, by decide +kernel⟩, List.mem_of_getElem? (i := 11) (by decide +kernel), List.mem_of_getElem? (i := 423) (by decide +kernel), List.mem_of_getElem? (i := 424) (by decide +kernel)⟩
theorem lw_p17 : lw_okq (⟨"PurseCard", "typeHead", "(IIII)V"⟩, 5) := ⟨⟨by decide +kernel, by decide +kernel⟩, List.mem_of_getElem? (i := 11) (by decide +kernel), List.mem_of_getElem? (i := 427) (by decide +kernel), List.mem_of_getElem? (i := 428) (by decide +kernel)⟩
theorem lw_p18 : lw_okq (⟨"PurseCard", "readRecords", "()I"⟩, 5) := ⟨⟨by decide +kernel, by decide +kernel⟩, List.mem_of_getElem? (i := 11) (by decide +kernel), List.mem_of_getElem? (i := 436) (by decide +kernel), List.mem_of_getElem? (i := 437) (by decide +kernel)⟩
theorem lw_p19 : lw_okq (⟨"PurseCard", "provePin", "(I)I"⟩, 5) := ⟨⟨by decide +kernel, by decide +kernel⟩, List.mem_of_getElem? (i := 11) (by decide +kernel), List.mem_of_getElem? (i := 440) (by decide +kernel), List.mem_of_getElem? (i := 441) (by decide +kernel)⟩
theorem lw_p20 : lw_okq (⟨"PurseCard", "typeSeal", "(IJII)V"⟩, 5) := ⟨⟨by decide +kernel, by decide +kernel⟩, List.mem_of_getElem? (i := 11) (by decide +kernel), List.mem_of_getElem? (i := 445) (by decide +kernel), List.mem_of_getElem? (i := 446) (by decide +kernel)⟩
theorem lw_p21 : lw_okq (⟨"PurseCard", "givenByCard", "()I"⟩, 5) := ⟨⟨by decide +kernel, by decide +kernel⟩, List.mem_of_getElem? (i := 11) (by decide +kernel), List.mem_of_getElem? (i := 450) (by decide +kernel), List.mem_of_getElem? (i := 451) (by decide +kernel)⟩
theorem lw_p22 : lw_okq (⟨"PurseCardModel", "expand", "()V"⟩, 25) := ⟨⟨by decide +kernel, by decide +kernel⟩, List.mem_of_getElem? (i := 470) (by decide +kernel), List.mem_of_getElem? (i := 485) (by decide +kernel), List.mem_of_getElem? (i := 486) (by decide +kernel)⟩
theorem lw_p23 : lw_okq (⟨"PurseCardModel", "take", "()I"⟩, 25) := ⟨⟨by decide +kernel, by decide +kernel⟩, List.mem_of_getElem? (i := 470) (by decide +kernel), List.mem_of_getElem? (i := 585) (by decide +kernel), List.mem_of_getElem? (i := 586) (by decide +kernel)⟩
theorem lw_p24 : lw_okq (⟨"PurseCardModel", "command", "()I"⟩, 25) := ⟨⟨by decide +kernel, by decide +kernel⟩, List.mem_of_getElem? (i := 470) (by decide +kernel), List.mem_of_getElem? (i := 589) (by decide +kernel), List.mem_of_getElem? (i := 590) (by decide +kernel)⟩
theorem lw_p25 : lw_okq (⟨"PurseCardModel", "parametersFit", "(I)Z"⟩, 25) := ⟨⟨by decide +kernel, by decide +kernel⟩, List.mem_of_getElem? (i := 470) (by decide +kernel), List.mem_of_getElem? (i := 596) (by decide +kernel), List.mem_of_getElem? (i := 597) (by decide +kernel)⟩
theorem lw_p26 : lw_okq (⟨"PurseCardModel", "stageFits", "(I)Z"⟩, 25) := ⟨⟨by decide +kernel, by decide +kernel⟩, List.mem_of_getElem? (i := 470) (by decide +kernel), List.mem_of_getElem? (i := 600) (by decide +kernel), List.mem_of_getElem? (i := 601) (by decide +kernel)⟩
theorem lw_p27 : lw_okq (⟨"PurseCardModel", "lengthFits", "(I)Z"⟩, 25) := ⟨⟨by decide +kernel, by decide +kernel⟩, List.mem_of_getElem? (i := 470) (by decide +kernel), List.mem_of_getElem? (i := 605) (by decide +kernel), List.mem_of_getElem? (i := 606) (by decide +kernel)⟩
theorem lw_p28 : lw_okq (⟨"PurseCardModel", "select", "()I"⟩, 25) := ⟨⟨by decide +kernel, by decide +kernel⟩, List.mem_of_getElem? (i := 470) (by decide +kernel), List.mem_of_getElem? (i := 609) (by decide +kernel), List.mem_of_getElem? (i := 610) (by decide +kernel)⟩
theorem lw_p29 : lw_okq (⟨"PurseCardModel", "say2", "(II)V"⟩, 25) := ⟨⟨by decide +kernel, by decide +kernel⟩, List.mem_of_getElem? (i := 470) (by decide +kernel), List.mem_of_getElem? (i := 613) (by decide +kernel), List.mem_of_getElem? (i := 614) (by decide +kernel)⟩
theorem lw_p30 : lw_okq (⟨"PurseCardModel", "say", "(I)V"⟩, 25) := ⟨⟨by decide +kernel, by decide +kernel⟩, List.mem_of_getElem? (i := 470) (by decide +kernel), List.mem_of_getElem? (i := 617) (by decide +kernel), List.mem_of_getElem? (i := 618) (by decide +kernel)⟩
theorem lw_p31 : lw_okq (⟨"PurseCardModel", "ready", "()I"⟩, 25) := ⟨⟨by decide +kernel, by decide +kernel⟩, List.mem_of_getElem? (i := 470) (by decide +kernel), List.mem_of_getElem? (i := 622) (by decide +kernel), List.mem_of_getElem? (i := 623) (by decide +kernel)⟩
def lw_privs_2 : List (MethodName × Nat) := [(⟨"PurseCard", "openPayment", "(J)I"⟩, 5), (⟨"PurseCard", "typeHead", "(IIII)V"⟩, 5), (⟨"PurseCard", "readRecords", "()I"⟩, 5), (⟨"PurseCard", "provePin", "(I)I"⟩, 5), (⟨"PurseCard", "typeSeal", "(IJII)V"⟩, 5), (⟨"PurseCard", "givenByCard", "()I"⟩, 5), (⟨"PurseCardModel", "expand", "()V"⟩, 25), (⟨"PurseCardModel", "take", "()I"⟩, 25), (⟨"PurseCardModel", "command", "()I"⟩, 25), (⟨"PurseCardModel", "parametersFit", "(I)Z"⟩, 25), (⟨"PurseCardModel", "stageFits", "(I)Z"⟩, 25), (⟨"PurseCardModel", "lengthFits", "(I)Z"⟩, 25), (⟨"PurseCardModel", "select", "()I"⟩, 25), (⟨"PurseCardModel", "say2", "(II)V"⟩, 25), (⟨"PurseCardModel", "say", "(I)V"⟩, 25), (⟨"PurseCardModel", "ready", "()I"⟩, 25)]
theorem lw_r2 : ∀ q ∈ lw_privs_2, lw_okq q := List.forall_mem_cons.mpr ⟨lw_p16, List.forall_mem_cons.mpr ⟨lw_p17, List.forall_mem_cons.mpr ⟨lw_p18, List.forall_mem_cons.mpr ⟨lw_p19, List.forall_mem_cons.mpr ⟨lw_p20, List.forall_mem_cons.mpr ⟨lw_p21, List.forall_mem_cons.mpr ⟨lw_p22, List.forall_mem_cons.mpr ⟨lw_p23, List.forall_mem_cons.mpr ⟨lw_p24, List.forall_mem_cons.mpr ⟨lw_p25, List.forall_mem_cons.mpr ⟨lw_p26, List.forall_mem_cons.mpr ⟨lw_p27, List.forall_mem_cons.mpr ⟨lw_p28, List.forall_mem_cons.mpr ⟨lw_p29, List.forall_mem_cons.mpr ⟨lw_p30, List.forall_mem_cons.mpr ⟨lw_p31, fun _ h => absurd h List.not_mem_nil⟩⟩⟩⟩⟩⟩⟩⟩⟩⟩⟩⟩⟩⟩⟩⟩
theorem lw_p32 : lw_okq (⟨"PurseCardModel", "sixFrom", "(I)J"⟩, 25) := ⟨⟨by decide +kernel, by decide +kernel⟩, List.mem_of_getElem? (i := 470) (by decide +kernel), List.mem_of_getElem? (i := 626) (by decide +kernel), List.mem_of_getElem? (i := 627) (by decide +kernel)⟩
theorem lw_p33 : lw_okq (⟨"PurseCardModel", "readRecord", "()I"⟩, 25) := ⟨⟨by decide +kernel, by decide +kernel⟩, List.mem_of_getElem? (i := 470) (by decide +kernel), List.mem_of_getElem? (i := 631) (by decide +kernel), List.mem_of_getElem? (i := 632) (by decide +kernel)⟩
theorem lw_p34 : lw_okq (⟨"PurseCardModel", "prove", "()I"⟩, 25) := ⟨⟨by decide +kernel, by decide +kernel⟩, List.mem_of_getElem? (i := 470) (by decide +kernel), List.mem_of_getElem? (i := 635) (by decide +kernel), List.mem_of_getElem? (i := 636) (by decide +kernel)⟩
theorem lw_p35 : lw_okq (⟨"PurseCardModel", "half", "(I)I"⟩, 25) := ⟨⟨by decide +kernel, by decide +kernel⟩, List.mem_of_getElem? (i := 470) (by decide +kernel), List.mem_of_getElem? (i := 639) (by decide +kernel), List.mem_of_getElem? (i := 640) (by decide +kernel)⟩
theorem lw_p36 : lw_okq (⟨"PurseCardModel", "tell", "()I"⟩, 25) := ⟨⟨by decide +kernel, by decide +kernel⟩, List.mem_of_getElem? (i := 470) (by decide +kernel), List.mem_of_getElem? (i := 643) (by decide +kernel), List.mem_of_getElem? (i := 644) (by decide +kernel)⟩
theorem lw_p37 : lw_okq (⟨"PurseCardModel", "give", "()I"⟩, 25) := ⟨⟨by decide +kernel, by decide +kernel⟩, List.mem_of_getElem? (i := 470) (by decide +kernel), List.mem_of_getElem? (i := 647) (by decide +kernel), List.mem_of_getElem? (i := 648) (by decide +kernel)⟩
theorem lw_p38 : lw_okq (⟨"PurseCardModel", "given", "()I"⟩, 25) := ⟨⟨by decide +kernel, by decide +kernel⟩, List.mem_of_getElem? (i := 470) (by decide +kernel), List.mem_of_getElem? (i := 651) (by decide +kernel), List.mem_of_getElem? (i := 652) (by decide +kernel)⟩
theorem lw_p39 : lw_okq (⟨"PurseCardModel", "sealPayment", "(JIIIZ)V"⟩, 25) := ⟨⟨by decide +kernel, by decide +kernel⟩, List.mem_of_getElem? (i := 470) (by decide +kernel), List.mem_of_getElem? (i := 655) (by decide +kernel), List.mem_of_getElem? (i := 656) (by decide +kernel)⟩
theorem lw_p40 : lw_okq (⟨"PurseCardModel", "makeSeal", "(I)V"⟩, 25) := ⟨⟨by decide +kernel, by decide +kernel⟩, List.mem_of_getElem? (i := 470) (by decide +kernel), List.mem_of_getElem? (i := 660) (by decide +kernel), List.mem_of_getElem? (i := 661) (by decide +kernel)⟩
theorem lw_p41 : lw_okq (⟨"PurseCardModel", "encipher", "()V"⟩, 25) := ⟨⟨by decide +kernel, by decide +kernel⟩, List.mem_of_getElem? (i := 470) (by decide +kernel), List.mem_of_getElem? (i := 664) (by decide +kernel), List.mem_of_getElem? (i := 665) (by decide +kernel)⟩
theorem lw_p42 : lw_okq (⟨"PurseCardModel", "combineKey", "(I)V"⟩, 25) := ⟨⟨by decide +kernel, by decide +kernel⟩, List.mem_of_getElem? (i := 470) (by decide +kernel), List.mem_of_getElem? (i := 668) (by decide +kernel), List.mem_of_getElem? (i := 669) (by decide +kernel)⟩
theorem lw_p43 : lw_okq (⟨"PurseCardModel", "mixRows", "()V"⟩, 25) := ⟨⟨by decide +kernel, by decide +kernel⟩, List.mem_of_getElem? (i := 470) (by decide +kernel), List.mem_of_getElem? (i := 672) (by decide +kernel), List.mem_of_getElem? (i := 673) (by decide +kernel)⟩
theorem lw_p44 : lw_okq (⟨"PurseCardModel", "doubleMask", "()V"⟩, 25) := ⟨⟨by decide +kernel, by decide +kernel⟩, List.mem_of_getElem? (i := 470) (by decide +kernel), List.mem_of_getElem? (i := 676) (by decide +kernel), List.mem_of_getElem? (i := 677) (by decide +kernel)⟩
theorem lw_p45 : lw_okq (⟨"PurseCardModel", "bytesOf", "(II)I"⟩, 25) := ⟨⟨by decide +kernel, by decide +kernel⟩, List.mem_of_getElem? (i := 470) (by decide +kernel), List.mem_of_getElem? (i := 709) (by decide +kernel), List.mem_of_getElem? (i := 710) (by decide +kernel)⟩
theorem lw_p46 : lw_okq (⟨"PurseCardModel", "sendSelect", "()I"⟩, 25) := ⟨⟨by decide +kernel, by decide +kernel⟩, List.mem_of_getElem? (i := 470) (by decide +kernel), List.mem_of_getElem? (i := 724) (by decide +kernel), List.mem_of_getElem? (i := 725) (by decide +kernel)⟩
theorem lw_p47 : lw_okq (⟨"PurseCardModel", "begin", "(IIII)V"⟩, 25) := ⟨⟨by decide +kernel, by decide +kernel⟩, List.mem_of_getElem? (i := 470) (by decide +kernel), List.mem_of_getElem? (i := 728) (by decide +kernel), List.mem_of_getElem? (i := 729) (by decide +kernel)⟩
def lw_privs_3 : List (MethodName × Nat) := [(⟨"PurseCardModel", "sixFrom", "(I)J"⟩, 25), (⟨"PurseCardModel", "readRecord", "()I"⟩, 25), (⟨"PurseCardModel", "prove", "()I"⟩, 25), (⟨"PurseCardModel", "half", "(I)I"⟩, 25), (⟨"PurseCardModel", "tell", "()I"⟩, 25), (⟨"PurseCardModel", "give", "()I"⟩, 25), (⟨"PurseCardModel", "given", "()I"⟩, 25), (⟨"PurseCardModel", "sealPayment", "(JIIIZ)V"⟩, 25), (⟨"PurseCardModel", "makeSeal", "(I)V"⟩, 25), (⟨"PurseCardModel", "encipher", "()V"⟩, 25), (⟨"PurseCardModel", "combineKey", "(I)V"⟩, 25), (⟨"PurseCardModel", "mixRows", "()V"⟩, 25), (⟨"PurseCardModel", "doubleMask", "()V"⟩, 25), (⟨"PurseCardModel", "bytesOf", "(II)I"⟩, 25), (⟨"PurseCardModel", "sendSelect", "()I"⟩, 25), (⟨"PurseCardModel", "begin", "(IIII)V"⟩, 25)]
theorem lw_r3 : ∀ q ∈ lw_privs_3, lw_okq q := List.forall_mem_cons.mpr ⟨lw_p32, List.forall_mem_cons.mpr ⟨lw_p33, List.forall_mem_cons.mpr ⟨lw_p34, List.forall_mem_cons.mpr ⟨lw_p35, List.forall_mem_cons.mpr ⟨lw_p36, List.forall_mem_cons.mpr ⟨lw_p37, List.forall_mem_cons.mpr ⟨lw_p38, List.forall_mem_cons.mpr ⟨lw_p39, List.forall_mem_cons.mpr ⟨lw_p40, List.forall_mem_cons.mpr ⟨lw_p41, List.forall_mem_cons.mpr ⟨lw_p42, List.forall_mem_cons.mpr ⟨lw_p43, List.forall_mem_cons.mpr ⟨lw_p44, List.forall_mem_cons.mpr ⟨lw_p45, List.forall_mem_cons.mpr ⟨lw_p46, List.forall_mem_cons.mpr ⟨lw_p47, fun _ h => absurd h List.not_mem_nil⟩⟩⟩⟩⟩⟩⟩⟩⟩⟩⟩⟩⟩⟩⟩⟩
theorem lw_p48 : lw_okq (⟨"PurseCardModel", "type", "(I)V"⟩, 25) := ⟨⟨by decide +kernel, by decide +kernel⟩, List.mem_of_getElem? (i := 470) (by decide +kernel), List.mem_of_getElem? (i := 732) (by decide +kernel), List.mem_of_getElem? (i := 733) (by decide +kernel)⟩
theorem lw_p49 : lw_okq (⟨"PurseCardModel", "sendReady", "(J)I"⟩, 25) := ⟨⟨by decide +kernel, by decide +kernel⟩, List.mem_of_getElem? (i := 470) (by decide +kernel), List.mem_of_getElem? (i := 737) (by decide +kernel), List.mem_of_getElem? (i := 738) (by decide +kernel)⟩
theorem lw_p50 : lw_okq (⟨"PurseCardModel", "typeSix", "(J)V"⟩, 25) := ⟨⟨by decide +kernel, by decide +kernel⟩, List.mem_of_getElem? (i := 470) (by decide +kernel), List.mem_of_getElem? (i := 741) (by decide +kernel), List.mem_of_getElem? (i := 742) (by decide +kernel)⟩
theorem lw_p51 : lw_okq (⟨"PurseCardModel", "readAll", "()I"⟩, 25) := ⟨⟨by decide +kernel, by decide +kernel⟩, List.mem_of_getElem? (i := 470) (by decide +kernel), List.mem_of_getElem? (i := 745) (by decide +kernel), List.mem_of_getElem? (i := 746) (by decide +kernel)⟩
theorem lw_p52 : lw_okq (⟨"PurseCardModel", "sendProve", "(I)I"⟩, 25) := ⟨⟨by decide +kernel, by decide +kernel⟩, List.mem_of_getElem? (i := 470) (by decide +kernel), List.mem_of_getElem? (i := 749) (by decide +kernel), List.mem_of_getElem? (i := 750) (by decide +kernel)⟩
theorem lw_p53 : lw_okq (⟨"PurseCardModel", "sendSeal", "(IJII)I"⟩, 25) := ⟨⟨by decide +kernel, by decide +kernel⟩, List.mem_of_getElem? (i := 470) (by decide +kernel), List.mem_of_getElem? (i := 753) (by decide +kernel), List.mem_of_getElem? (i := 754) (by decide +kernel)⟩
theorem lw_p54 : lw_okq (⟨"PurseCardModel", "cryptogram", "()I"⟩, 25) := ⟨⟨by decide +kernel, by decide +kernel⟩, List.mem_of_getElem? (i := 470) (by decide +kernel), List.mem_of_getElem? (i := 757) (by decide +kernel), List.mem_of_getElem? (i := 758) (by decide +kernel)⟩
def lw_privs_4 : List (MethodName × Nat) := [(⟨"PurseCardModel", "type", "(I)V"⟩, 25), (⟨"PurseCardModel", "sendReady", "(J)I"⟩, 25), (⟨"PurseCardModel", "typeSix", "(J)V"⟩, 25), (⟨"PurseCardModel", "readAll", "()I"⟩, 25), (⟨"PurseCardModel", "sendProve", "(I)I"⟩, 25), (⟨"PurseCardModel", "sendSeal", "(IJII)I"⟩, 25), (⟨"PurseCardModel", "cryptogram", "()I"⟩, 25)]
theorem lw_r4 : ∀ q ∈ lw_privs_4, lw_okq q := List.forall_mem_cons.mpr ⟨lw_p48, List.forall_mem_cons.mpr ⟨lw_p49, List.forall_mem_cons.mpr ⟨lw_p50, List.forall_mem_cons.mpr ⟨lw_p51, List.forall_mem_cons.mpr ⟨lw_p52, List.forall_mem_cons.mpr ⟨lw_p53, List.forall_mem_cons.mpr ⟨lw_p54, fun _ h => absurd h List.not_mem_nil⟩⟩⟩⟩⟩⟩⟩
def lw_privs : List (MethodName × Nat) := lw_privs_1 ++ (lw_privs_2 ++ (lw_privs_3 ++ (lw_privs_4)))
def lw_tbl : List Cond := k2_sels lw_privs ++ tables_1
theorem lw_privs_ok : ∀ q ∈ lw_privs, lw_okq q := by
  show ∀ q ∈ lw_privs_1 ++ (lw_privs_2 ++ (lw_privs_3 ++ (lw_privs_4))), lw_okq q
  exact List.forall_mem_append.mpr ⟨lw_r1, List.forall_mem_append.mpr ⟨lw_r2, List.forall_mem_append.mpr ⟨lw_r3, lw_r4⟩⟩⟩
end
section
def T_Row : u_T := fun k => match k with
  | 0 => ("PurseCard$Row", "bytes", "[I", true)
  | _ => ("PurseCard$Row", "size", "I", false)
def t_Row : Nat → FieldType := fun k => match k with
  | 0 => .array .int
  | _ => .int
theorem n_Row : ∀ a, a < 2 → ∀ b, b < 2 → a ≠ b → (T_Row a).2.1 ≠ (T_Row b).2.1 := by decide +kernel
theorem t_Row_ok : ∀ k, k < 2 → parseFieldDescriptor (T_Row k).2.2.1 = some (t_Row k) := by decide +kernel
def T_Tag : u_T := fun k => match k with
  | _ => ("PurseCard$TagSearch", "ends", "[I", true)
def t_Tag : Nat → FieldType := fun k => match k with
  | _ => .array .int
theorem n_Tag : ∀ a, a < 1 → ∀ b, b < 1 → a ≠ b → (T_Tag a).2.1 ≠ (T_Tag b).2.1 := by decide +kernel
theorem t_Tag_ok : ∀ k, k < 1 → parseFieldDescriptor (T_Tag k).2.2.1 = some (t_Tag k) := by decide +kernel
def T_Fil : u_T := fun k => match k with
  | 0 => ("PurseCard$Files", "bytes", "[I", true)
  | 1 => ("PurseCard$Files", "sizes", "[I", true)
  | _ => ("PurseCard$Files", "counts", "[I", true)
def t_Fil : Nat → FieldType := fun k => match k with
  | 0 => .array .int
  | 1 => .array .int
  | _ => .array .int
theorem n_Fil : ∀ a, a < 3 → ∀ b, b < 3 → a ≠ b → (T_Fil a).2.1 ≠ (T_Fil b).2.1 := by decide +kernel
theorem t_Fil_ok : ∀ k, k < 3 → parseFieldDescriptor (T_Fil k).2.2.1 = some (t_Fil k) := by decide +kernel
def T_Sea : u_T := fun k => match k with
  | 0 => ("PurseCard$Sealer", "roundKeys", "[I", true)
  | 1 => ("PurseCard$Sealer", "forWhole", "[I", true)
  | 2 => ("PurseCard$Sealer", "forFilled", "[I", true)
  | 3 => ("PurseCard$Sealer", "x", "[I", true)
  | 4 => ("PurseCard$Sealer", "turned", "[I", true)
  | _ => ("PurseCard$Sealer", "paid", "LPurseCard$Row;", true)
def t_Sea : Nat → FieldType := fun k => match k with
  | 0 => .array .int
  | 1 => .array .int
  | 2 => .array .int
  | 3 => .array .int
  | 4 => .array .int
  | _ => .object "PurseCard$Row"
theorem n_Sea : ∀ a, a < 6 → ∀ b, b < 6 → a ≠ b → (T_Sea a).2.1 ≠ (T_Sea b).2.1 := by decide +kernel
theorem t_Sea_ok : ∀ k, k < 6 → parseFieldDescriptor (T_Sea k).2.2.1 = some (t_Sea k) := by decide +kernel
def T_Crd : u_T := fun k => match k with
  | 0 => ("PurseCard$Card", "name", "LPurseCard$Row;", true)
  | 1 => ("PurseCard$Card", "files", "LPurseCard$Files;", true)
  | 2 => ("PurseCard$Card", "sealer", "LPurseCard$Sealer;", true)
  | 3 => ("PurseCard$Card", "code", "I", false)
  | 4 => ("PurseCard$Card", "counter", "I", false)
  | 5 => ("PurseCard$Card", "tries", "I", false)
  | 6 => ("PurseCard$Card", "alone", "I", false)
  | 7 => ("PurseCard$Card", "stage", "I", false)
  | 8 => ("PurseCard$Card", "amount", "J", false)
  | _ => ("PurseCard$Card", "proven", "Z", false)
def t_Crd : Nat → FieldType := fun k => match k with
  | 0 => .object "PurseCard$Row"
  | 1 => .object "PurseCard$Files"
  | 2 => .object "PurseCard$Sealer"
  | 3 => .int
  | 4 => .int
  | 5 => .int
  | 6 => .int
  | 7 => .int
  | 8 => .long
  | _ => .boolean
theorem n_Crd : ∀ a, a < 10 → ∀ b, b < 10 → a ≠ b → (T_Crd a).2.1 ≠ (T_Crd b).2.1 := by decide +kernel
theorem t_Crd_ok : ∀ k, k < 10 → parseFieldDescriptor (T_Crd k).2.2.1 = some (t_Crd k) := by decide +kernel
def T_Pur : u_T := fun k => match k with
  | 0 => ("PurseCard", "typed", "LPurseCard$Row;", true)
  | 1 => ("PurseCard", "reply", "LPurseCard$Row;", true)
  | 2 => ("PurseCard", "list", "LPurseCard$Row;", true)
  | 3 => ("PurseCard", "search", "LPurseCard$TagSearch;", true)
  | _ => ("PurseCard", "card", "LPurseCard$Card;", true)
def t_Pur : Nat → FieldType := fun k => match k with
  | 0 => .object "PurseCard$Row"
  | 1 => .object "PurseCard$Row"
  | 2 => .object "PurseCard$Row"
  | 3 => .object "PurseCard$TagSearch"
  | _ => .object "PurseCard$Card"
theorem n_Pur : ∀ a, a < 5 → ∀ b, b < 5 → a ≠ b → (T_Pur a).2.1 ≠ (T_Pur b).2.1 := by decide +kernel
theorem t_Pur_ok : ∀ k, k < 5 → parseFieldDescriptor (T_Pur k).2.2.1 = some (t_Pur k) := by decide +kernel
def T_Mod : u_T := fun k => match k with
  | 0 => ("PurseCardModel", "key", "[I", false)
  | 1 => ("PurseCardModel", "digits", "[I", false)
  | 2 => ("PurseCardModel", "name", "[I", false)
  | 3 => ("PurseCardModel", "records", "[I", false)
  | 4 => ("PurseCardModel", "recordLength", "[I", false)
  | 5 => ("PurseCardModel", "recordByte", "[I", false)
  | 6 => ("PurseCardModel", "counter", "I", false)
  | 7 => ("PurseCardModel", "tries", "I", false)
  | 8 => ("PurseCardModel", "alone", "I", false)
  | 9 => ("PurseCardModel", "stage", "I", false)
  | 10 => ("PurseCardModel", "amount", "J", false)
  | 11 => ("PurseCardModel", "proven", "Z", false)
  | 12 => ("PurseCardModel", "typed", "I", false)
  | 13 => ("PurseCardModel", "row", "[I", false)
  | 14 => ("PurseCardModel", "size", "I", false)
  | 15 => ("PurseCardModel", "out", "[I", false)
  | 16 => ("PurseCardModel", "entries", "[I", false)
  | 17 => ("PurseCardModel", "table", "[I", false)
  | 18 => ("PurseCardModel", "round", "[I", false)
  | 19 => ("PurseCardModel", "block", "[I", false)
  | 20 => ("PurseCardModel", "moved", "[I", false)
  | 21 => ("PurseCardModel", "sealed", "[I", false)
  | 22 => ("PurseCardModel", "result", "[I", false)
  | 23 => ("PurseCardModel", "mask", "[I", false)
  | _ => ("PurseCardModel", "ends", "[I", false)
def t_Mod : Nat → FieldType := fun k => match k with
  | 0 => .array .int
  | 1 => .array .int
  | 2 => .array .int
  | 3 => .array .int
  | 4 => .array .int
  | 5 => .array .int
  | 6 => .int
  | 7 => .int
  | 8 => .int
  | 9 => .int
  | 10 => .long
  | 11 => .boolean
  | 12 => .int
  | 13 => .array .int
  | 14 => .int
  | 15 => .array .int
  | 16 => .array .int
  | 17 => .array .int
  | 18 => .array .int
  | 19 => .array .int
  | 20 => .array .int
  | 21 => .array .int
  | 22 => .array .int
  | 23 => .array .int
  | _ => .array .int
theorem n_Mod : ∀ a, a < 25 → ∀ b, b < 25 → a ≠ b → (T_Mod a).2.1 ≠ (T_Mod b).2.1 := by decide +kernel
theorem t_Mod_ok : ∀ k, k < 25 → parseFieldDescriptor (T_Mod k).2.2.1 = some (t_Mod k) := by decide +kernel
abbrev vwCl : List vw_C := [("PurseCard$Row", T_Row, 2), ("PurseCard$TagSearch", T_Tag, 1), ("PurseCard$Files", T_Fil, 3), ("PurseCard$Sealer", T_Sea, 6), ("PurseCard$Card", T_Crd, 10), ("PurseCard", T_Pur, 5), ("PurseCardModel", T_Mod, 25)]
abbrev mM : Type := MethodName × ByteArray × Nat × Option FieldType
def M_Pur_init : mM := (⟨"PurseCard", "<init>", "(I)V"⟩, prog_1_method_1_code, 2, none)
def M_Obj_init : mM := (⟨"java/lang/Object", "<init>", "()V"⟩, object_method_1_code, 1, none)
def M_Row_init : mM := (⟨"PurseCard$Row", "<init>", "(I)V"⟩, prog_4_method_1_code, 2, none)
def M_Tag_init : mM := (⟨"PurseCard$TagSearch", "<init>", "()V"⟩, prog_6_method_1_code, 1, none)
def M_Crd_init : mM := (⟨"PurseCard$Card", "<init>", "(I)V"⟩, prog_2_method_1_code, 2, none)
def M_Fil_init : mM := (⟨"PurseCard$Files", "<init>", "()V"⟩, prog_3_method_1_code, 1, none)
def M_Sea_init : mM := (⟨"PurseCard$Sealer", "<init>", "()V"⟩, prog_5_method_1_code, 1, none)
def M_Sea_takeKey : mM := (⟨"PurseCard$Sealer", "takeKey", "(JJ)V"⟩, prog_5_method_2_code, 6, none)
def M_Sea_growRoundKeys : mM := (⟨"PurseCard$Sealer", "growRoundKeys", "()V"⟩, prog_5_method_6_code, 5, none)
def M_Sea_twice : mM := (⟨"PurseCard$Sealer", "twice", "(I)I"⟩, prog_5_method_11_code, 1, (some .int))
def M_Arr_fill : mM := (⟨"java/util/Arrays", "fill", "([II)V"⟩, prog_10_method_103_code, 4, none)
def M_Sea_encipher : mM := (⟨"PurseCard$Sealer", "encipher", "()V"⟩, prog_5_method_7_code, 2, none)
def M_Sea_combineRoundKey : mM := (⟨"PurseCard$Sealer", "combineRoundKey", "(I)V"⟩, prog_5_method_8_code, 3, none)
def M_Sea_substituteAndTurn : mM := (⟨"PurseCard$Sealer", "substituteAndTurn", "()V"⟩, prog_5_method_9_code, 3, none)
def M_Sea_mixColumns : mM := (⟨"PurseCard$Sealer", "mixColumns", "()V"⟩, prog_5_method_10_code, 6, none)
def M_Sea_doubleRow : mM := (⟨"PurseCard$Sealer", "doubleRow", "([I[I)V"⟩, prog_5_method_12_code, 4, none)
def M_Row_addNumber : mM := (⟨"PurseCard$Row", "addNumber", "(JI)V"⟩, prog_4_method_7_code, 5, none)
def M_Row_add : mM := (⟨"PurseCard$Row", "add", "(I)Z"⟩, prog_4_method_5_code, 2, (some .boolean))
def M_Pur_put : mM := (⟨"PurseCard", "put", "(I)Z"⟩, prog_1_method_2_code, 2, (some .boolean))
def M_Pur_wipe : mM := (⟨"PurseCard", "wipe", "()I"⟩, prog_1_method_3_code, 2, (some .int))
def M_Row_size : mM := (⟨"PurseCard$Row", "size", "()I"⟩, prog_4_method_2_code, 1, (some .int))
def M_Row_clear : mM := (⟨"PurseCard$Row", "clear", "()V"⟩, prog_4_method_3_code, 1, none)
def M_Pur_send : mM := (⟨"PurseCard", "send", "()I"⟩, prog_1_method_4_code, 1, (some .int))
def M_Crd_obey : mM := (⟨"PurseCard$Card", "obey", "(LPurseCard$Row;LPurseCard$Row;)I"⟩, prog_2_method_2_code, 4, (some .int))
def M_Crd_firstFault : mM := (⟨"PurseCard$Card", "firstFault", "(LPurseCard$Row;)I"⟩, prog_2_method_3_code, 3, (some .int))
def M_Crd_isWellFormed : mM := (⟨"PurseCard$Card", "isWellFormed", "(LPurseCard$Row;)Z"⟩, prog_2_method_4_code, 2, (some .boolean))
def M_Row_at : mM := (⟨"PurseCard$Row", "at", "(I)I"⟩, prog_4_method_4_code, 2, (some .int))
def M_Crd_instructionOf : mM := (⟨"PurseCard$Card", "instructionOf", "(LPurseCard$Row;)I"⟩, prog_2_method_5_code, 1, (some .int))
def M_Row_numberAt : mM := (⟨"PurseCard$Row", "numberAt", "(II)J"⟩, prog_4_method_8_code, 6, (some .long))
def M_Crd_isKnown : mM := (⟨"PurseCard$Card", "isKnown", "(I)Z"⟩, prog_2_method_7_code, 1, (some .boolean))
def M_Crd_takesParameters : mM := (⟨"PurseCard$Card", "takesParameters", "(III)Z"⟩, prog_2_method_8_code, 3, (some .boolean))
def M_Crd_fitsStage : mM := (⟨"PurseCard$Card", "fitsStage", "(I)Z"⟩, prog_2_method_9_code, 2, (some .boolean))
def M_Crd_dataSize : mM := (⟨"PurseCard$Card", "dataSize", "(LPurseCard$Row;)I"⟩, prog_2_method_6_code, 1, (some .int))
def M_Crd_takesData : mM := (⟨"PurseCard$Card", "takesData", "(II)Z"⟩, prog_2_method_10_code, 3, (some .boolean))
def M_Crd_select : mM := (⟨"PurseCard$Card", "select", "(LPurseCard$Row;LPurseCard$Row;)I"⟩, prog_2_method_11_code, 7, (some .int))
def M_Row_openTag : mM := (⟨"PurseCard$Row", "openTag", "(I)I"⟩, prog_4_method_9_code, 2, (some .int))
def M_Row_addRow : mM := (⟨"PurseCard$Row", "addRow", "(LPurseCard$Row;)V"⟩, prog_4_method_6_code, 3, none)
def M_Row_closeTag : mM := (⟨"PurseCard$Row", "closeTag", "(I)V"⟩, prog_4_method_10_code, 2, none)
def M_Row_addTagged : mM := (⟨"PurseCard$Row", "addTagged", "(IJI)V"⟩, prog_4_method_11_code, 6, none)
def M_Crd_ready : mM := (⟨"PurseCard$Card", "ready", "(LPurseCard$Row;LPurseCard$Row;)I"⟩, prog_2_method_12_code, 5, (some .int))
def M_Fil_count : mM := (⟨"PurseCard$Files", "count", "(I)I"⟩, prog_3_method_2_code, 2, (some .int))
def M_Crd_read : mM := (⟨"PurseCard$Card", "read", "(LPurseCard$Row;LPurseCard$Row;)I"⟩, prog_2_method_13_code, 6, (some .int))
def M_Fil_copy : mM := (⟨"PurseCard$Files", "copy", "(IILPurseCard$Row;)V"⟩, prog_3_method_4_code, 6, none)
def M_Crd_prove : mM := (⟨"PurseCard$Card", "prove", "(LPurseCard$Row;)I"⟩, prog_2_method_14_code, 2, (some .int))
def M_Crd_holdsDigits : mM := (⟨"PurseCard$Card", "holdsDigits", "(LPurseCard$Row;)Z"⟩, prog_2_method_15_code, 2, (some .boolean))
def M_Crd_digitsOf : mM := (⟨"PurseCard$Card", "digitsOf", "(I)I"⟩, prog_2_method_16_code, 3, (some .int))
def M_Crd_tell : mM := (⟨"PurseCard$Card", "tell", "(LPurseCard$Row;LPurseCard$Row;)I"⟩, prog_2_method_17_code, 3, (some .int))
def M_Crd_giveSeal : mM := (⟨"PurseCard$Card", "giveSeal", "(LPurseCard$Row;LPurseCard$Row;)I"⟩, prog_2_method_18_code, 11, (some .int))
def M_Crd_decide : mM := (⟨"PurseCard$Card", "decide", "(IJJ)I"⟩, prog_2_method_19_code, 6, (some .int))
def M_Sea_payment : mM := (⟨"PurseCard$Sealer", "payment", "(JJJIZ)LPurseCard$Row;"⟩, prog_5_method_3_code, 9, (some (.object "PurseCard$Row")))
def M_Sea_run : mM := (⟨"PurseCard$Sealer", "run", "(LPurseCard$Row;)V"⟩, prog_5_method_4_code, 9, none)
def M_Sea_byteAt : mM := (⟨"PurseCard$Sealer", "byteAt", "(I)I"⟩, prog_5_method_5_code, 2, (some .int))
def M_Pur_answered : mM := (⟨"PurseCard", "answered", "()I"⟩, prog_1_method_5_code, 1, (some .int))
def M_Pur_answer : mM := (⟨"PurseCard", "answer", "(I)I"⟩, prog_1_method_6_code, 2, (some .int))
def M_Pur_find : mM := (⟨"PurseCard", "find", "(I)I"⟩, prog_1_method_7_code, 2, (some .int))
def M_Tag_placeOf : mM := (⟨"PurseCard$TagSearch", "placeOf", "(ILPurseCard$Row;)I"⟩, prog_6_method_2_code, 10, (some .int))
def M_Pur_keep : mM := (⟨"PurseCard", "keep", "(I)I"⟩, prog_1_method_8_code, 2, (some .int))
def M_Fil_store : mM := (⟨"PurseCard$Files", "store", "(ILPurseCard$Row;)Z"⟩, prog_3_method_3_code, 5, (some .boolean))
def M_Pur_key : mM := (⟨"PurseCard", "key", "(JJ)V"⟩, prog_1_method_9_code, 5, none)
def M_Pur_code : mM := (⟨"PurseCard", "code", "(I)Z"⟩, prog_1_method_10_code, 2, (some .boolean))
def M_Pur_advance : mM := (⟨"PurseCard", "advance", "(I)Z"⟩, prog_1_method_11_code, 2, (some .boolean))
def M_Pur_seal : mM := (⟨"PurseCard", "seal", "(I)I"⟩, prog_1_method_12_code, 2, (some .int))
def M_Pur_genuine : mM := (⟨"PurseCard", "genuine", "(JIZ)Z"⟩, prog_1_method_13_code, 10, (some .boolean))
def M_Pur_isAmount : mM := (⟨"PurseCard", "isAmount", "(J)Z"⟩, prog_1_method_18_code, 2, (some .boolean))
def M_Pur_placeOfSized : mM := (⟨"PurseCard", "placeOfSized", "(II)I"⟩, prog_1_method_19_code, 4, (some .int))
def M_Pur_pay : mM := (⟨"PurseCard", "pay", "(JJIIZ)I"⟩, prog_1_method_14_code, 11, (some .int))
def M_Pur_openPayment : mM := (⟨"PurseCard", "openPayment", "(J)I"⟩, prog_1_method_21_code, 4, (some .int))
def M_Pur_typeHead : mM := (⟨"PurseCard", "typeHead", "(IIII)V"⟩, prog_1_method_25_code, 5, none)
def M_Pur_readRecords : mM := (⟨"PurseCard", "readRecords", "()I"⟩, prog_1_method_22_code, 4, (some .int))
def M_Pur_provePin : mM := (⟨"PurseCard", "provePin", "(I)I"⟩, prog_1_method_23_code, 3, (some .int))
def M_Pur_typeSeal : mM := (⟨"PurseCard", "typeSeal", "(IJII)V"⟩, prog_1_method_24_code, 6, none)
def M_Pur_givenByCard : mM := (⟨"PurseCard", "givenByCard", "()I"⟩, prog_1_method_20_code, 1, (some .int))
def M_Pur_stage : mM := (⟨"PurseCard", "stage", "()I"⟩, prog_1_method_15_code, 1, (some .int))
def M_Pur_counter : mM := (⟨"PurseCard", "counter", "()I"⟩, prog_1_method_16_code, 1, (some .int))
def M_Pur_tries : mM := (⟨"PurseCard", "tries", "()I"⟩, prog_1_method_17_code, 1, (some .int))
def M_Law_cell : mM := (⟨"PurseCardLaw", "cell", "([II)I"⟩, method_2_code, 2, (some .int))
def M_Mod_init : mM := (⟨"PurseCardModel", "<init>", "(I)V"⟩, prog_8_method_1_code, 3, none)
def M_Mod_substitute : mM := (⟨"PurseCardModel", "substitute", "(I)I"⟩, prog_8_method_4_code, 5, (some .int))
def M_Mod_inverse : mM := (⟨"PurseCardModel", "inverse", "(I)I"⟩, prog_8_method_3_code, 3, (some .int))
def M_Mod_times : mM := (⟨"PurseCardModel", "times", "(II)I"⟩, prog_8_method_2_code, 5, (some .int))
def M_Mod_expand : mM := (⟨"PurseCardModel", "expand", "()V"⟩, prog_8_method_5_code, 6, none)
def M_Mod_put : mM := (⟨"PurseCardModel", "put", "(I)Z"⟩, prog_8_method_12_code, 2, (some .boolean))
def M_Mod_wipe : mM := (⟨"PurseCardModel", "wipe", "()I"⟩, prog_8_method_13_code, 2, (some .int))
def M_Mod_answered : mM := (⟨"PurseCardModel", "answered", "()I"⟩, prog_8_method_16_code, 1, (some .int))
def M_Mod_answer : mM := (⟨"PurseCardModel", "answer", "(I)I"⟩, prog_8_method_17_code, 2, (some .int))
def M_Mod_send : mM := (⟨"PurseCardModel", "send", "()I"⟩, prog_8_method_23_code, 2, (some .int))
def M_Mod_take : mM := (⟨"PurseCardModel", "take", "()I"⟩, prog_8_method_22_code, 2, (some .int))
def M_Mod_command : mM := (⟨"PurseCardModel", "command", "()I"⟩, prog_8_method_18_code, 2, (some .int))
def M_Mod_parametersFit : mM := (⟨"PurseCardModel", "parametersFit", "(I)Z"⟩, prog_8_method_19_code, 4, (some .boolean))
def M_Mod_stageFits : mM := (⟨"PurseCardModel", "stageFits", "(I)Z"⟩, prog_8_method_20_code, 2, (some .boolean))
def M_Mod_lengthFits : mM := (⟨"PurseCardModel", "lengthFits", "(I)Z"⟩, prog_8_method_21_code, 3, (some .boolean))
def M_Mod_select : mM := (⟨"PurseCardModel", "select", "()I"⟩, prog_8_method_24_code, 3, (some .int))
def M_Mod_say2 : mM := (⟨"PurseCardModel", "say2", "(II)V"⟩, prog_8_method_15_code, 3, none)
def M_Mod_say : mM := (⟨"PurseCardModel", "say", "(I)V"⟩, prog_8_method_14_code, 2, none)
def M_Mod_ready : mM := (⟨"PurseCardModel", "ready", "()I"⟩, prog_8_method_26_code, 3, (some .int))
def M_Mod_sixFrom : mM := (⟨"PurseCardModel", "sixFrom", "(I)J"⟩, prog_8_method_25_code, 5, (some .long))
def M_Mod_readRecord : mM := (⟨"PurseCardModel", "readRecord", "()I"⟩, prog_8_method_27_code, 5, (some .int))
def M_Mod_prove : mM := (⟨"PurseCardModel", "prove", "()I"⟩, prog_8_method_29_code, 4, (some .int))
def M_Mod_half : mM := (⟨"PurseCardModel", "half", "(I)I"⟩, prog_8_method_28_code, 3, (some .int))
def M_Mod_tell : mM := (⟨"PurseCardModel", "tell", "()I"⟩, prog_8_method_30_code, 2, (some .int))
def M_Mod_give : mM := (⟨"PurseCardModel", "give", "()I"⟩, prog_8_method_32_code, 4, (some .int))
def M_Mod_given : mM := (⟨"PurseCardModel", "given", "()I"⟩, prog_8_method_31_code, 2, (some .int))
def M_Mod_sealPayment : mM := (⟨"PurseCardModel", "sealPayment", "(JIIIZ)V"⟩, prog_8_method_11_code, 8, none)
def M_Mod_makeSeal : mM := (⟨"PurseCardModel", "makeSeal", "(I)V"⟩, prog_8_method_10_code, 8, none)
def M_Mod_encipher : mM := (⟨"PurseCardModel", "encipher", "()V"⟩, prog_8_method_8_code, 5, none)
def M_Mod_combineKey : mM := (⟨"PurseCardModel", "combineKey", "(I)V"⟩, prog_8_method_6_code, 3, none)
def M_Mod_mixRows : mM := (⟨"PurseCardModel", "mixRows", "()V"⟩, prog_8_method_7_code, 3, none)
def M_Mod_doubleMask : mM := (⟨"PurseCardModel", "doubleMask", "()V"⟩, prog_8_method_9_code, 4, none)
def M_Mod_find : mM := (⟨"PurseCardModel", "find", "(I)I"⟩, prog_8_method_33_code, 9, (some .int))
def M_Mod_keep : mM := (⟨"PurseCardModel", "keep", "(I)I"⟩, prog_8_method_34_code, 5, (some .int))
def M_Mod_key : mM := (⟨"PurseCardModel", "key", "(JJ)V"⟩, prog_8_method_35_code, 6, none)
def M_Mod_code : mM := (⟨"PurseCardModel", "code", "(I)Z"⟩, prog_8_method_36_code, 2, (some .boolean))
def M_Mod_advance : mM := (⟨"PurseCardModel", "advance", "(I)Z"⟩, prog_8_method_37_code, 2, (some .boolean))
def M_Mod_seal : mM := (⟨"PurseCardModel", "seal", "(I)I"⟩, prog_8_method_38_code, 3, (some .int))
def M_Mod_genuine : mM := (⟨"PurseCardModel", "genuine", "(JIZ)Z"⟩, prog_8_method_41_code, 10, (some .boolean))
def M_Mod_bytesOf : mM := (⟨"PurseCardModel", "bytesOf", "(II)I"⟩, prog_8_method_40_code, 4, (some .int))
def M_Mod_isAmount : mM := (⟨"PurseCardModel", "isAmount", "(J)Z"⟩, prog_8_method_39_code, 2, (some .boolean))
def M_Mod_pay : mM := (⟨"PurseCardModel", "pay", "(JJIIZ)I"⟩, prog_8_method_51_code, 12, (some .int))
def M_Mod_sendSelect : mM := (⟨"PurseCardModel", "sendSelect", "()I"⟩, prog_8_method_46_code, 2, (some .int))
def M_Mod_begin : mM := (⟨"PurseCardModel", "begin", "(IIII)V"⟩, prog_8_method_43_code, 5, none)
def M_Mod_type : mM := (⟨"PurseCardModel", "type", "(I)V"⟩, prog_8_method_42_code, 2, none)
def M_Mod_sendReady : mM := (⟨"PurseCardModel", "sendReady", "(J)I"⟩, prog_8_method_47_code, 3, (some .int))
def M_Mod_typeSix : mM := (⟨"PurseCardModel", "typeSix", "(J)V"⟩, prog_8_method_44_code, 4, none)
def M_Mod_readAll : mM := (⟨"PurseCardModel", "readAll", "()I"⟩, prog_8_method_48_code, 5, (some .int))
def M_Mod_sendProve : mM := (⟨"PurseCardModel", "sendProve", "(I)I"⟩, prog_8_method_49_code, 3, (some .int))
def M_Mod_sendSeal : mM := (⟨"PurseCardModel", "sendSeal", "(IJII)I"⟩, prog_8_method_45_code, 7, (some .int))
def M_Mod_cryptogram : mM := (⟨"PurseCardModel", "cryptogram", "()I"⟩, prog_8_method_50_code, 2, (some .int))
def M_Mod_stage : mM := (⟨"PurseCardModel", "stage", "()I"⟩, prog_8_method_52_code, 1, (some .int))
def M_Mod_counter : mM := (⟨"PurseCardModel", "counter", "()I"⟩, prog_8_method_53_code, 1, (some .int))
def M_Mod_tries : mM := (⟨"PurseCardModel", "tries", "()I"⟩, prog_8_method_54_code, 1, (some .int))
def M_Law_law : mM := (⟨"PurseCardLaw", "law", "([I)Z"⟩, code, 4, some .boolean)
end
section
def mOkW (w : Cond) : Bool := (w.onTables && w.keeps) || (match w with | .arrayClass _ => true | _ => false)
def mWS : List Cond := lw_tbl.filter mOkW
theorem mw1 {w : Cond} (i : Nat) (h0 : tables_1_1[i]? = some w) (h2 : mOkW w = true) : w ∈ mWS := by
  have h := List.mem_of_getElem? h0
  exact List.mem_filter.mpr ⟨List.mem_append_right _ (List.mem_append_left _ h), h2⟩
theorem mw2 {w : Cond} (i : Nat) (h0 : tables_1_2[i]? = some w) (h2 : mOkW w = true) : w ∈ mWS := by
  have h := List.mem_of_getElem? h0
  exact List.mem_filter.mpr ⟨List.mem_append_right _ (List.mem_append_right _ (List.mem_append_left _ h)), h2⟩
theorem mw3 {w : Cond} (i : Nat) (h0 : tables_1_3[i]? = some w) (h2 : mOkW w = true) : w ∈ mWS := by
  have h := List.mem_of_getElem? h0
  exact List.mem_filter.mpr ⟨List.mem_append_right _ (List.mem_append_right _ (List.mem_append_right _ (List.mem_append_left _ h))), h2⟩
theorem mw4 {w : Cond} (i : Nat) (h0 : tables_1_4[i]? = some w) (h2 : mOkW w = true) : w ∈ mWS := by
  have h := List.mem_of_getElem? h0
  exact List.mem_filter.mpr ⟨List.mem_append_right _ (List.mem_append_right _ (List.mem_append_right _ (List.mem_append_right _ h))), h2⟩
theorem q_0 : Cond.initialized "PurseCardLaw" ∈ mWS := mw1 0 (by decide +kernel) rfl
theorem q_1 : Cond.initialized "PurseCard" ∈ mWS := mw1 1 (by decide +kernel) rfl
theorem q_2 : Cond.initialized "PurseCard$Row" ∈ mWS := mw1 2 (by decide +kernel) rfl
theorem q_3 : Cond.initialized "PurseCard$TagSearch" ∈ mWS := mw1 3 (by decide +kernel) rfl
theorem q_4 : Cond.initialized "PurseCard$Card" ∈ mWS := mw1 4 (by decide +kernel) rfl
theorem q_5 : Cond.initialized "PurseCard$Files" ∈ mWS := mw1 5 (by decide +kernel) rfl
theorem q_6 : Cond.initialized "PurseCard$Sealer" ∈ mWS := mw1 6 (by decide +kernel) rfl
theorem q_7 : Cond.initialized "java/util/Arrays" ∈ mWS := mw1 7 (by decide +kernel) rfl
theorem q_8 : Cond.initialized "java/lang/System" ∈ mWS := mw1 8 (by decide +kernel) rfl
theorem q_9 : Cond.initialized "PurseCardModel" ∈ mWS := mw1 9 (by decide +kernel) rfl
theorem q_10 : Cond.classLink "PurseCardLaw" (7 : Nat) "PurseCard" ∈ mWS := mw1 10 (by decide +kernel) rfl
theorem q_11 : Cond.instantiable "PurseCard" (5 : Nat) ∈ mWS := mw1 11 (by decide +kernel) rfl
theorem q_12 : Cond.methodLink "PurseCardLaw" (15 : Nat) ⟨"PurseCard", "<init>", "(I)V"⟩ ∈ mWS := mw1 12 (by decide +kernel) rfl
theorem q_13 : Cond.instanceMethod ⟨"PurseCard", "<init>", "(I)V"⟩ ∈ mWS := mw1 13 (by decide +kernel) rfl
theorem q_14 : Cond.code ⟨"PurseCard", "<init>", "(I)V"⟩ prog_1_method_1_code (2 : Nat) (Option.none : Option FieldType) ∈ mWS := mw1 14 (by decide +kernel) rfl
theorem q_15 : Cond.methodLink "PurseCard" (1 : Nat) ⟨"java/lang/Object", "<init>", "()V"⟩ ∈ mWS := mw1 15 (by decide +kernel) rfl
theorem q_16 : Cond.instanceMethod ⟨"java/lang/Object", "<init>", "()V"⟩ ∈ mWS := mw1 16 (by decide +kernel) rfl
theorem q_17 : Cond.code ⟨"java/lang/Object", "<init>", "()V"⟩ object_method_1_code (1 : Nat) (Option.none : Option FieldType) ∈ mWS := mw1 17 (by decide +kernel) rfl
theorem q_18 : Cond.classLink "PurseCard" (7 : Nat) "PurseCard$Row" ∈ mWS := mw1 18 (by decide +kernel) rfl
theorem q_19 : Cond.instantiable "PurseCard$Row" (2 : Nat) ∈ mWS := mw1 19 (by decide +kernel) rfl
theorem q_20 : Cond.methodLink "PurseCard" (11 : Nat) ⟨"PurseCard$Row", "<init>", "(I)V"⟩ ∈ mWS := mw1 20 (by decide +kernel) rfl
theorem q_21 : Cond.instanceMethod ⟨"PurseCard$Row", "<init>", "(I)V"⟩ ∈ mWS := mw1 21 (by decide +kernel) rfl
theorem q_22 : Cond.code ⟨"PurseCard$Row", "<init>", "(I)V"⟩ prog_4_method_1_code (2 : Nat) (Option.none : Option FieldType) ∈ mWS := mw1 22 (by decide +kernel) rfl
theorem q_23 : Cond.methodLink "PurseCard$Row" (3 : Nat) ⟨"java/lang/Object", "<init>", "()V"⟩ ∈ mWS := mw1 23 (by decide +kernel) rfl
theorem q_24 : Cond.fieldLink "PurseCard$Row" (15 : Nat) "PurseCard$Row" "bytes" "[I" ∈ mWS := mw1 24 (by decide +kernel) rfl
theorem q_25 : Cond.fieldLink "PurseCard$Row" (9 : Nat) "PurseCard$Row" "size" "I" ∈ mWS := mw1 25 (by decide +kernel) rfl
theorem q_26 : Cond.laysFinal "PurseCard$Row" "PurseCard$Row" "bytes" "[I" ∈ mWS := mw1 26 (by decide +kernel) rfl
theorem q_28 : Cond.lays "PurseCard$Row" "PurseCard$Row" "size" "I" ∈ mWS := mw1 28 (by decide +kernel) rfl
theorem q_31 : Cond.arrayClass FieldType.int ∈ mWS := mw1 31 (by decide +kernel) rfl
theorem q_32 : Cond.classLink "PurseCard" (24 : Nat) "PurseCard$TagSearch" ∈ mWS := mw1 32 (by decide +kernel) rfl
theorem q_33 : Cond.instantiable "PurseCard$TagSearch" (1 : Nat) ∈ mWS := mw1 33 (by decide +kernel) rfl
theorem q_35 : Cond.instanceMethod ⟨"PurseCard$TagSearch", "<init>", "()V"⟩ ∈ mWS := mw1 35 (by decide +kernel) rfl
theorem q_36 : Cond.code ⟨"PurseCard$TagSearch", "<init>", "()V"⟩ prog_6_method_1_code (1 : Nat) (Option.none : Option FieldType) ∈ mWS := mw1 36 (by decide +kernel) rfl
theorem q_37 : Cond.methodLink "PurseCard$TagSearch" (3 : Nat) ⟨"java/lang/Object", "<init>", "()V"⟩ ∈ mWS := mw1 37 (by decide +kernel) rfl
theorem q_38 : Cond.fieldLink "PurseCard$TagSearch" (9 : Nat) "PurseCard$TagSearch" "ends" "[I" ∈ mWS := mw1 38 (by decide +kernel) rfl
theorem q_39 : Cond.laysFinal "PurseCard$TagSearch" "PurseCard$TagSearch" "ends" "[I" ∈ mWS := mw1 39 (by decide +kernel) rfl
theorem q_42 : Cond.classLink "PurseCard" (31 : Nat) "PurseCard$Card" ∈ mWS := mw1 42 (by decide +kernel) rfl
theorem q_43 : Cond.instantiable "PurseCard$Card" (10 : Nat) ∈ mWS := mw1 43 (by decide +kernel) rfl
theorem q_44 : Cond.methodLink "PurseCard" (33 : Nat) ⟨"PurseCard$Card", "<init>", "(I)V"⟩ ∈ mWS := mw1 44 (by decide +kernel) rfl
theorem q_45 : Cond.instanceMethod ⟨"PurseCard$Card", "<init>", "(I)V"⟩ ∈ mWS := mw1 45 (by decide +kernel) rfl
theorem q_46 : Cond.code ⟨"PurseCard$Card", "<init>", "(I)V"⟩ prog_2_method_1_code (2 : Nat) (Option.none : Option FieldType) ∈ mWS := mw1 46 (by decide +kernel) rfl
theorem q_47 : Cond.methodLink "PurseCard$Card" (3 : Nat) ⟨"java/lang/Object", "<init>", "()V"⟩ ∈ mWS := mw1 47 (by decide +kernel) rfl
theorem q_48 : Cond.classLink "PurseCard$Card" (9 : Nat) "PurseCard$Row" ∈ mWS := mw1 48 (by decide +kernel) rfl
theorem q_49 : Cond.methodLink "PurseCard$Card" (11 : Nat) ⟨"PurseCard$Row", "<init>", "(I)V"⟩ ∈ mWS := mw1 49 (by decide +kernel) rfl
theorem q_50 : Cond.classLink "PurseCard$Card" (20 : Nat) "PurseCard$Files" ∈ mWS := mw1 50 (by decide +kernel) rfl
theorem q_51 : Cond.instantiable "PurseCard$Files" (3 : Nat) ∈ mWS := mw1 51 (by decide +kernel) rfl
theorem q_53 : Cond.instanceMethod ⟨"PurseCard$Files", "<init>", "()V"⟩ ∈ mWS := mw1 53 (by decide +kernel) rfl
theorem q_54 : Cond.code ⟨"PurseCard$Files", "<init>", "()V"⟩ prog_3_method_1_code (1 : Nat) (Option.none : Option FieldType) ∈ mWS := mw1 54 (by decide +kernel) rfl
theorem q_55 : Cond.methodLink "PurseCard$Files" (3 : Nat) ⟨"java/lang/Object", "<init>", "()V"⟩ ∈ mWS := mw1 55 (by decide +kernel) rfl
theorem q_56 : Cond.fieldLink "PurseCard$Files" (9 : Nat) "PurseCard$Files" "bytes" "[I" ∈ mWS := mw1 56 (by decide +kernel) rfl
theorem q_57 : Cond.fieldLink "PurseCard$Files" (15 : Nat) "PurseCard$Files" "sizes" "[I" ∈ mWS := mw1 57 (by decide +kernel) rfl
theorem q_58 : Cond.fieldLink "PurseCard$Files" (18 : Nat) "PurseCard$Files" "counts" "[I" ∈ mWS := mw1 58 (by decide +kernel) rfl
theorem q_59 : Cond.laysFinal "PurseCard$Files" "PurseCard$Files" "bytes" "[I" ∈ mWS := mw1 59 (by decide +kernel) rfl
theorem q_61 : Cond.laysFinal "PurseCard$Files" "PurseCard$Files" "sizes" "[I" ∈ mWS := mw1 61 (by decide +kernel) rfl
theorem q_63 : Cond.laysFinal "PurseCard$Files" "PurseCard$Files" "counts" "[I" ∈ mWS := mw1 63 (by decide +kernel) rfl
theorem q_66 : Cond.classLink "PurseCard$Card" (27 : Nat) "PurseCard$Sealer" ∈ mWS := mw1 66 (by decide +kernel) rfl
theorem q_67 : Cond.instantiable "PurseCard$Sealer" (6 : Nat) ∈ mWS := mw1 67 (by decide +kernel) rfl
theorem q_68 : Cond.methodLink "PurseCard$Card" (29 : Nat) ⟨"PurseCard$Sealer", "<init>", "()V"⟩ ∈ mWS := mw1 68 (by decide +kernel) rfl
theorem q_69 : Cond.instanceMethod ⟨"PurseCard$Sealer", "<init>", "()V"⟩ ∈ mWS := mw1 69 (by decide +kernel) rfl
theorem q_70 : Cond.code ⟨"PurseCard$Sealer", "<init>", "()V"⟩ prog_5_method_1_code (1 : Nat) (Option.none : Option FieldType) ∈ mWS := mw1 70 (by decide +kernel) rfl
theorem q_71 : Cond.methodLink "PurseCard$Sealer" (3 : Nat) ⟨"java/lang/Object", "<init>", "()V"⟩ ∈ mWS := mw1 71 (by decide +kernel) rfl
theorem q_72 : Cond.classLink "PurseCard$Sealer" (27 : Nat) "PurseCard$Row" ∈ mWS := mw1 72 (by decide +kernel) rfl
theorem q_73 : Cond.methodLink "PurseCard$Sealer" (29 : Nat) ⟨"PurseCard$Row", "<init>", "(I)V"⟩ ∈ mWS := mw1 73 (by decide +kernel) rfl
theorem q_74 : Cond.methodLink "PurseCard$Sealer" (36 : Nat) ⟨"PurseCard$Sealer", "takeKey", "(JJ)V"⟩ ∈ mWS := mw1 74 (by decide +kernel) rfl
theorem q_75 : Cond.instanceMethod ⟨"PurseCard$Sealer", "takeKey", "(JJ)V"⟩ ∈ mWS := mw1 75 (by decide +kernel) rfl
theorem q_76 : Cond.selects "PurseCard$Sealer" ⟨"PurseCard$Sealer", "takeKey", "(JJ)V"⟩ ⟨"PurseCard$Sealer", "takeKey", "(JJ)V"⟩ ∈ mWS := mw1 76 (by decide +kernel) rfl
theorem q_77 : Cond.code ⟨"PurseCard$Sealer", "takeKey", "(JJ)V"⟩ prog_5_method_2_code (6 : Nat) (Option.none : Option FieldType) ∈ mWS := mw1 77 (by decide +kernel) rfl
theorem q_78 : Cond.methodLink "PurseCard$Sealer" (40 : Nat) ⟨"PurseCard$Sealer", "growRoundKeys", "()V"⟩ ∈ mWS := mw1 78 (by decide +kernel) rfl
theorem q_80 : Cond.instanceMethod ⟨"PurseCard$Sealer", "growRoundKeys", "()V"⟩ ∈ mWS := mw1 80 (by decide +kernel) rfl
theorem q_81 : Cond.code ⟨"PurseCard$Sealer", "growRoundKeys", "()V"⟩ prog_5_method_6_code (5 : Nat) (Option.none : Option FieldType) ∈ mWS := mw1 81 (by decide +kernel) rfl
theorem q_82 : Cond.fieldLink "PurseCard$Sealer" (75 : Nat) "PurseCard$Sealer" "S" "[I" ∈ mWS := mw1 82 (by decide +kernel) rfl
theorem q_84 : Cond.methodLink "PurseCard$Sealer" (78 : Nat) ⟨"PurseCard$Sealer", "twice", "(I)I"⟩ ∈ mWS := mw1 84 (by decide +kernel) rfl
theorem q_85 : Cond.static ⟨"PurseCard$Sealer", "twice", "(I)I"⟩ ∈ mWS := mw1 85 (by decide +kernel) rfl
theorem q_86 : Cond.code ⟨"PurseCard$Sealer", "twice", "(I)I"⟩ prog_5_method_11_code (1 : Nat) (Option.some FieldType.int) ∈ mWS := mw1 86 (by decide +kernel) rfl
theorem q_87 : Cond.methodLink "PurseCard$Sealer" (43 : Nat) ⟨"java/util/Arrays", "fill", "([II)V"⟩ ∈ mWS := mw1 87 (by decide +kernel) rfl
theorem q_88 : Cond.static ⟨"java/util/Arrays", "fill", "([II)V"⟩ ∈ mWS := mw1 88 (by decide +kernel) rfl
theorem q_89 : Cond.code ⟨"java/util/Arrays", "fill", "([II)V"⟩ prog_10_method_103_code (4 : Nat) (Option.none : Option FieldType) ∈ mWS := mw1 89 (by decide +kernel) rfl
theorem q_90 : Cond.methodLink "PurseCard$Sealer" (49 : Nat) ⟨"PurseCard$Sealer", "encipher", "()V"⟩ ∈ mWS := mw1 90 (by decide +kernel) rfl
theorem q_92 : Cond.instanceMethod ⟨"PurseCard$Sealer", "encipher", "()V"⟩ ∈ mWS := mw1 92 (by decide +kernel) rfl
theorem q_93 : Cond.code ⟨"PurseCard$Sealer", "encipher", "()V"⟩ prog_5_method_7_code (2 : Nat) (Option.none : Option FieldType) ∈ mWS := mw1 93 (by decide +kernel) rfl
theorem q_94 : Cond.methodLink "PurseCard$Sealer" (81 : Nat) ⟨"PurseCard$Sealer", "combineRoundKey", "(I)V"⟩ ∈ mWS := mw1 94 (by decide +kernel) rfl
theorem q_96 : Cond.instanceMethod ⟨"PurseCard$Sealer", "combineRoundKey", "(I)V"⟩ ∈ mWS := mw1 96 (by decide +kernel) rfl
theorem q_97 : Cond.code ⟨"PurseCard$Sealer", "combineRoundKey", "(I)V"⟩ prog_5_method_8_code (3 : Nat) (Option.none : Option FieldType) ∈ mWS := mw1 97 (by decide +kernel) rfl
theorem q_98 : Cond.methodLink "PurseCard$Sealer" (84 : Nat) ⟨"PurseCard$Sealer", "substituteAndTurn", "()V"⟩ ∈ mWS := mw1 98 (by decide +kernel) rfl
theorem q_100 : Cond.instanceMethod ⟨"PurseCard$Sealer", "substituteAndTurn", "()V"⟩ ∈ mWS := mw1 100 (by decide +kernel) rfl
theorem q_101 : Cond.code ⟨"PurseCard$Sealer", "substituteAndTurn", "()V"⟩ prog_5_method_9_code (3 : Nat) (Option.none : Option FieldType) ∈ mWS := mw1 101 (by decide +kernel) rfl
theorem q_102 : Cond.methodLink "PurseCard$Sealer" (90 : Nat) ⟨"java/lang/System", "arraycopy", "(Ljava/lang/Object;ILjava/lang/Object;II)V"⟩ ∈ mWS := mw1 102 (by decide +kernel) rfl
theorem q_103 : Cond.static ⟨"java/lang/System", "arraycopy", "(Ljava/lang/Object;ILjava/lang/Object;II)V"⟩ ∈ mWS := mw1 103 (by decide +kernel) rfl
theorem q_104 : Cond.native ⟨"java/lang/System", "arraycopy", "(Ljava/lang/Object;ILjava/lang/Object;II)V"⟩ ∈ mWS := mw1 104 (by decide +kernel) rfl
theorem q_105 : Cond.methodLink "PurseCard$Sealer" (87 : Nat) ⟨"PurseCard$Sealer", "mixColumns", "()V"⟩ ∈ mWS := mw1 105 (by decide +kernel) rfl
theorem q_107 : Cond.instanceMethod ⟨"PurseCard$Sealer", "mixColumns", "()V"⟩ ∈ mWS := mw1 107 (by decide +kernel) rfl
theorem q_108 : Cond.code ⟨"PurseCard$Sealer", "mixColumns", "()V"⟩ prog_5_method_10_code (6 : Nat) (Option.none : Option FieldType) ∈ mWS := mw1 108 (by decide +kernel) rfl
theorem q_109 : Cond.methodLink "PurseCard$Sealer" (52 : Nat) ⟨"PurseCard$Sealer", "doubleRow", "([I[I)V"⟩ ∈ mWS := mw1 109 (by decide +kernel) rfl
theorem q_110 : Cond.static ⟨"PurseCard$Sealer", "doubleRow", "([I[I)V"⟩ ∈ mWS := mw1 110 (by decide +kernel) rfl
theorem q_111 : Cond.code ⟨"PurseCard$Sealer", "doubleRow", "([I[I)V"⟩ prog_5_method_12_code (4 : Nat) (Option.none : Option FieldType) ∈ mWS := mw1 111 (by decide +kernel) rfl
theorem q_112 : Cond.fieldLink "PurseCard$Sealer" (11 : Nat) "PurseCard$Sealer" "roundKeys" "[I" ∈ mWS := mw1 112 (by decide +kernel) rfl
theorem q_113 : Cond.fieldLink "PurseCard$Sealer" (15 : Nat) "PurseCard$Sealer" "forWhole" "[I" ∈ mWS := mw1 113 (by decide +kernel) rfl
theorem q_114 : Cond.fieldLink "PurseCard$Sealer" (18 : Nat) "PurseCard$Sealer" "forFilled" "[I" ∈ mWS := mw1 114 (by decide +kernel) rfl
theorem q_115 : Cond.fieldLink "PurseCard$Sealer" (21 : Nat) "PurseCard$Sealer" "x" "[I" ∈ mWS := mw1 115 (by decide +kernel) rfl
theorem q_116 : Cond.fieldLink "PurseCard$Sealer" (24 : Nat) "PurseCard$Sealer" "turned" "[I" ∈ mWS := mw1 116 (by decide +kernel) rfl
theorem q_117 : Cond.fieldLink "PurseCard$Sealer" (32 : Nat) "PurseCard$Sealer" "paid" "LPurseCard$Row;" ∈ mWS := mw1 117 (by decide +kernel) rfl
theorem q_118 : Cond.laysFinal "PurseCard$Sealer" "PurseCard$Sealer" "roundKeys" "[I" ∈ mWS := mw1 118 (by decide +kernel) rfl
theorem q_120 : Cond.laysFinal "PurseCard$Sealer" "PurseCard$Sealer" "forWhole" "[I" ∈ mWS := mw1 120 (by decide +kernel) rfl
theorem q_122 : Cond.laysFinal "PurseCard$Sealer" "PurseCard$Sealer" "forFilled" "[I" ∈ mWS := mw1 122 (by decide +kernel) rfl
theorem q_124 : Cond.laysFinal "PurseCard$Sealer" "PurseCard$Sealer" "x" "[I" ∈ mWS := mw1 124 (by decide +kernel) rfl
theorem q_126 : Cond.laysFinal "PurseCard$Sealer" "PurseCard$Sealer" "turned" "[I" ∈ mWS := mw1 126 (by decide +kernel) rfl
theorem q_128 : Cond.laysFinal "PurseCard$Sealer" "PurseCard$Sealer" "paid" "LPurseCard$Row;" ∈ mWS := mw1 128 (by decide +kernel) rfl
theorem q_131 : Cond.constantLong "PurseCard$Card" (58 : Nat) (2684354560 : Int64) ∈ mWS := mw1 131 (by decide +kernel) rfl
theorem q_132 : Cond.methodLink "PurseCard$Card" (60 : Nat) ⟨"PurseCard$Row", "addNumber", "(JI)V"⟩ ∈ mWS := mw1 132 (by decide +kernel) rfl
theorem q_133 : Cond.instanceMethod ⟨"PurseCard$Row", "addNumber", "(JI)V"⟩ ∈ mWS := mw1 133 (by decide +kernel) rfl
theorem q_134 : Cond.selects "PurseCard$Row" ⟨"PurseCard$Row", "addNumber", "(JI)V"⟩ ⟨"PurseCard$Row", "addNumber", "(JI)V"⟩ ∈ mWS := mw1 134 (by decide +kernel) rfl
theorem q_135 : Cond.code ⟨"PurseCard$Row", "addNumber", "(JI)V"⟩ prog_4_method_7_code (5 : Nat) (Option.none : Option FieldType) ∈ mWS := mw1 135 (by decide +kernel) rfl
theorem q_136 : Cond.methodLink "PurseCard$Row" (23 : Nat) ⟨"PurseCard$Row", "add", "(I)Z"⟩ ∈ mWS := mw1 136 (by decide +kernel) rfl
theorem q_137 : Cond.instanceMethod ⟨"PurseCard$Row", "add", "(I)Z"⟩ ∈ mWS := mw1 137 (by decide +kernel) rfl
theorem q_138 : Cond.selects "PurseCard$Row" ⟨"PurseCard$Row", "add", "(I)Z"⟩ ⟨"PurseCard$Row", "add", "(I)Z"⟩ ∈ mWS := mw1 138 (by decide +kernel) rfl
theorem q_139 : Cond.code ⟨"PurseCard$Row", "add", "(I)Z"⟩ prog_4_method_5_code (2 : Nat) (Option.some FieldType.boolean) ∈ mWS := mw1 139 (by decide +kernel) rfl
theorem q_140 : Cond.fieldLink "PurseCard$Card" (14 : Nat) "PurseCard$Card" "name" "LPurseCard$Row;" ∈ mWS := mw1 140 (by decide +kernel) rfl
theorem q_142 : Cond.fieldLink "PurseCard$Card" (23 : Nat) "PurseCard$Card" "files" "LPurseCard$Files;" ∈ mWS := mw1 142 (by decide +kernel) rfl
theorem q_144 : Cond.fieldLink "PurseCard$Card" (30 : Nat) "PurseCard$Card" "sealer" "LPurseCard$Sealer;" ∈ mWS := mw1 144 (by decide +kernel) rfl
theorem q_146 : Cond.fieldLink "PurseCard$Card" (34 : Nat) "PurseCard$Card" "code" "I" ∈ mWS := mw1 146 (by decide +kernel) rfl
theorem q_148 : Cond.fieldLink "PurseCard$Card" (38 : Nat) "PurseCard$Card" "counter" "I" ∈ mWS := mw1 148 (by decide +kernel) rfl
theorem q_150 : Cond.fieldLink "PurseCard$Card" (41 : Nat) "PurseCard$Card" "tries" "I" ∈ mWS := mw1 150 (by decide +kernel) rfl
theorem q_152 : Cond.fieldLink "PurseCard$Card" (44 : Nat) "PurseCard$Card" "alone" "I" ∈ mWS := mw1 152 (by decide +kernel) rfl
theorem q_153 : Cond.fieldLink "PurseCard$Card" (47 : Nat) "PurseCard$Card" "stage" "I" ∈ mWS := mw1 153 (by decide +kernel) rfl
theorem q_155 : Cond.fieldLink "PurseCard$Card" (50 : Nat) "PurseCard$Card" "amount" "J" ∈ mWS := mw1 155 (by decide +kernel) rfl
theorem q_156 : Cond.fieldLink "PurseCard$Card" (54 : Nat) "PurseCard$Card" "proven" "Z" ∈ mWS := mw1 156 (by decide +kernel) rfl
theorem q_157 : Cond.laysFinal "PurseCard$Card" "PurseCard$Card" "name" "LPurseCard$Row;" ∈ mWS := mw1 157 (by decide +kernel) rfl
theorem q_159 : Cond.laysFinal "PurseCard$Card" "PurseCard$Card" "files" "LPurseCard$Files;" ∈ mWS := mw1 159 (by decide +kernel) rfl
theorem q_161 : Cond.laysFinal "PurseCard$Card" "PurseCard$Card" "sealer" "LPurseCard$Sealer;" ∈ mWS := mw1 161 (by decide +kernel) rfl
theorem q_163 : Cond.lays "PurseCard$Card" "PurseCard$Card" "code" "I" ∈ mWS := mw1 163 (by decide +kernel) rfl
theorem q_165 : Cond.lays "PurseCard$Card" "PurseCard$Card" "counter" "I" ∈ mWS := mw1 165 (by decide +kernel) rfl
theorem q_167 : Cond.lays "PurseCard$Card" "PurseCard$Card" "tries" "I" ∈ mWS := mw1 167 (by decide +kernel) rfl
theorem q_169 : Cond.lays "PurseCard$Card" "PurseCard$Card" "alone" "I" ∈ mWS := mw1 169 (by decide +kernel) rfl
theorem q_171 : Cond.lays "PurseCard$Card" "PurseCard$Card" "stage" "I" ∈ mWS := mw1 171 (by decide +kernel) rfl
theorem q_173 : Cond.lays "PurseCard$Card" "PurseCard$Card" "amount" "J" ∈ mWS := mw1 173 (by decide +kernel) rfl
theorem q_175 : Cond.lays "PurseCard$Card" "PurseCard$Card" "proven" "Z" ∈ mWS := mw1 175 (by decide +kernel) rfl
theorem q_178 : Cond.fieldLink "PurseCard" (14 : Nat) "PurseCard" "typed" "LPurseCard$Row;" ∈ mWS := mw1 178 (by decide +kernel) rfl
theorem q_179 : Cond.fieldLink "PurseCard" (18 : Nat) "PurseCard" "reply" "LPurseCard$Row;" ∈ mWS := mw1 179 (by decide +kernel) rfl
theorem q_180 : Cond.fieldLink "PurseCard" (21 : Nat) "PurseCard" "list" "LPurseCard$Row;" ∈ mWS := mw1 180 (by decide +kernel) rfl
theorem q_181 : Cond.fieldLink "PurseCard" (27 : Nat) "PurseCard" "search" "LPurseCard$TagSearch;" ∈ mWS := mw1 181 (by decide +kernel) rfl
theorem q_182 : Cond.fieldLink "PurseCard" (34 : Nat) "PurseCard" "card" "LPurseCard$Card;" ∈ mWS := mw1 182 (by decide +kernel) rfl
theorem q_183 : Cond.laysFinal "PurseCard" "PurseCard" "typed" "LPurseCard$Row;" ∈ mWS := mw1 183 (by decide +kernel) rfl
theorem q_185 : Cond.laysFinal "PurseCard" "PurseCard" "reply" "LPurseCard$Row;" ∈ mWS := mw1 185 (by decide +kernel) rfl
theorem q_187 : Cond.laysFinal "PurseCard" "PurseCard" "list" "LPurseCard$Row;" ∈ mWS := mw1 187 (by decide +kernel) rfl
theorem q_189 : Cond.laysFinal "PurseCard" "PurseCard" "search" "LPurseCard$TagSearch;" ∈ mWS := mw1 189 (by decide +kernel) rfl
theorem q_191 : Cond.laysFinal "PurseCard" "PurseCard" "card" "LPurseCard$Card;" ∈ mWS := mw1 191 (by decide +kernel) rfl
theorem q_194 : Cond.methodLink "PurseCardLaw" (21 : Nat) ⟨"PurseCard", "put", "(I)Z"⟩ ∈ mWS := mw1 194 (by decide +kernel) rfl
theorem q_195 : Cond.instanceMethod ⟨"PurseCard", "put", "(I)Z"⟩ ∈ mWS := mw1 195 (by decide +kernel) rfl
theorem q_196 : Cond.selects "PurseCard" ⟨"PurseCard", "put", "(I)Z"⟩ ⟨"PurseCard", "put", "(I)Z"⟩ ∈ mWS := mw1 196 (by decide +kernel) rfl
theorem q_197 : Cond.code ⟨"PurseCard", "put", "(I)Z"⟩ prog_1_method_2_code (2 : Nat) (Option.some FieldType.boolean) ∈ mWS := mw1 197 (by decide +kernel) rfl
theorem q_198 : Cond.methodLink "PurseCard" (38 : Nat) ⟨"PurseCard$Row", "add", "(I)Z"⟩ ∈ mWS := mw1 198 (by decide +kernel) rfl
theorem q_199 : Cond.methodLink "PurseCardLaw" (26 : Nat) ⟨"PurseCard", "wipe", "()I"⟩ ∈ mWS := mw1 199 (by decide +kernel) rfl
theorem q_200 : Cond.instanceMethod ⟨"PurseCard", "wipe", "()I"⟩ ∈ mWS := mw1 200 (by decide +kernel) rfl
theorem q_201 : Cond.selects "PurseCard" ⟨"PurseCard", "wipe", "()I"⟩ ⟨"PurseCard", "wipe", "()I"⟩ ∈ mWS := mw1 201 (by decide +kernel) rfl
theorem q_202 : Cond.code ⟨"PurseCard", "wipe", "()I"⟩ prog_1_method_3_code (2 : Nat) (Option.some FieldType.int) ∈ mWS := mw1 202 (by decide +kernel) rfl
theorem q_203 : Cond.methodLink "PurseCard" (42 : Nat) ⟨"PurseCard$Row", "size", "()I"⟩ ∈ mWS := mw1 203 (by decide +kernel) rfl
theorem q_204 : Cond.instanceMethod ⟨"PurseCard$Row", "size", "()I"⟩ ∈ mWS := mw1 204 (by decide +kernel) rfl
theorem q_205 : Cond.selects "PurseCard$Row" ⟨"PurseCard$Row", "size", "()I"⟩ ⟨"PurseCard$Row", "size", "()I"⟩ ∈ mWS := mw1 205 (by decide +kernel) rfl
theorem q_206 : Cond.code ⟨"PurseCard$Row", "size", "()I"⟩ prog_4_method_2_code (1 : Nat) (Option.some FieldType.int) ∈ mWS := mw1 206 (by decide +kernel) rfl
theorem q_207 : Cond.methodLink "PurseCard" (46 : Nat) ⟨"PurseCard$Row", "clear", "()V"⟩ ∈ mWS := mw1 207 (by decide +kernel) rfl
theorem q_208 : Cond.instanceMethod ⟨"PurseCard$Row", "clear", "()V"⟩ ∈ mWS := mw1 208 (by decide +kernel) rfl
theorem q_209 : Cond.selects "PurseCard$Row" ⟨"PurseCard$Row", "clear", "()V"⟩ ⟨"PurseCard$Row", "clear", "()V"⟩ ∈ mWS := mw1 209 (by decide +kernel) rfl
theorem q_210 : Cond.code ⟨"PurseCard$Row", "clear", "()V"⟩ prog_4_method_3_code (1 : Nat) (Option.none : Option FieldType) ∈ mWS := mw1 210 (by decide +kernel) rfl
theorem q_211 : Cond.methodLink "PurseCardLaw" (31 : Nat) ⟨"PurseCard", "send", "()I"⟩ ∈ mWS := mw1 211 (by decide +kernel) rfl
theorem q_212 : Cond.instanceMethod ⟨"PurseCard", "send", "()I"⟩ ∈ mWS := mw1 212 (by decide +kernel) rfl
theorem q_213 : Cond.selects "PurseCard" ⟨"PurseCard", "send", "()I"⟩ ⟨"PurseCard", "send", "()I"⟩ ∈ mWS := mw1 213 (by decide +kernel) rfl
theorem q_214 : Cond.code ⟨"PurseCard", "send", "()I"⟩ prog_1_method_4_code (1 : Nat) (Option.some FieldType.int) ∈ mWS := mw1 214 (by decide +kernel) rfl
theorem q_215 : Cond.methodLink "PurseCard" (49 : Nat) ⟨"PurseCard$Card", "obey", "(LPurseCard$Row;LPurseCard$Row;)I"⟩ ∈ mWS := mw1 215 (by decide +kernel) rfl
theorem q_216 : Cond.instanceMethod ⟨"PurseCard$Card", "obey", "(LPurseCard$Row;LPurseCard$Row;)I"⟩ ∈ mWS := mw1 216 (by decide +kernel) rfl
theorem q_217 : Cond.selects "PurseCard$Card" ⟨"PurseCard$Card", "obey", "(LPurseCard$Row;LPurseCard$Row;)I"⟩ ⟨"PurseCard$Card", "obey", "(LPurseCard$Row;LPurseCard$Row;)I"⟩ ∈ mWS := mw1 217 (by decide +kernel) rfl
theorem q_218 : Cond.code ⟨"PurseCard$Card", "obey", "(LPurseCard$Row;LPurseCard$Row;)I"⟩ prog_2_method_2_code (4 : Nat) (Option.some FieldType.int) ∈ mWS := mw1 218 (by decide +kernel) rfl
theorem q_219 : Cond.methodLink "PurseCard$Card" (64 : Nat) ⟨"PurseCard$Row", "clear", "()V"⟩ ∈ mWS := mw1 219 (by decide +kernel) rfl
theorem q_220 : Cond.methodLink "PurseCard$Card" (67 : Nat) ⟨"PurseCard$Card", "firstFault", "(LPurseCard$Row;)I"⟩ ∈ mWS := mw1 220 (by decide +kernel) rfl
theorem q_222 : Cond.instanceMethod ⟨"PurseCard$Card", "firstFault", "(LPurseCard$Row;)I"⟩ ∈ mWS := mw1 222 (by decide +kernel) rfl
theorem q_223 : Cond.code ⟨"PurseCard$Card", "firstFault", "(LPurseCard$Row;)I"⟩ prog_2_method_3_code (3 : Nat) (Option.some FieldType.int) ∈ mWS := mw1 223 (by decide +kernel) rfl
theorem q_224 : Cond.methodLink "PurseCard$Card" (94 : Nat) ⟨"PurseCard$Card", "isWellFormed", "(LPurseCard$Row;)Z"⟩ ∈ mWS := mw1 224 (by decide +kernel) rfl
theorem q_225 : Cond.static ⟨"PurseCard$Card", "isWellFormed", "(LPurseCard$Row;)Z"⟩ ∈ mWS := mw1 225 (by decide +kernel) rfl
theorem q_226 : Cond.code ⟨"PurseCard$Card", "isWellFormed", "(LPurseCard$Row;)Z"⟩ prog_2_method_4_code (2 : Nat) (Option.some FieldType.boolean) ∈ mWS := mw1 226 (by decide +kernel) rfl
theorem q_227 : Cond.methodLink "PurseCard$Card" (120 : Nat) ⟨"PurseCard$Row", "size", "()I"⟩ ∈ mWS := mw1 227 (by decide +kernel) rfl
theorem q_228 : Cond.methodLink "PurseCard$Card" (98 : Nat) ⟨"PurseCard$Row", "at", "(I)I"⟩ ∈ mWS := mw1 228 (by decide +kernel) rfl
theorem q_229 : Cond.instanceMethod ⟨"PurseCard$Row", "at", "(I)I"⟩ ∈ mWS := mw1 229 (by decide +kernel) rfl
theorem q_230 : Cond.selects "PurseCard$Row" ⟨"PurseCard$Row", "at", "(I)I"⟩ ⟨"PurseCard$Row", "at", "(I)I"⟩ ∈ mWS := mw1 230 (by decide +kernel) rfl
theorem q_231 : Cond.code ⟨"PurseCard$Row", "at", "(I)I"⟩ prog_4_method_4_code (2 : Nat) (Option.some FieldType.int) ∈ mWS := mw1 231 (by decide +kernel) rfl
theorem q_232 : Cond.methodLink "PurseCard$Card" (72 : Nat) ⟨"PurseCard$Card", "instructionOf", "(LPurseCard$Row;)I"⟩ ∈ mWS := mw1 232 (by decide +kernel) rfl
theorem q_233 : Cond.static ⟨"PurseCard$Card", "instructionOf", "(LPurseCard$Row;)I"⟩ ∈ mWS := mw1 233 (by decide +kernel) rfl
theorem q_234 : Cond.code ⟨"PurseCard$Card", "instructionOf", "(LPurseCard$Row;)I"⟩ prog_2_method_5_code (1 : Nat) (Option.some FieldType.int) ∈ mWS := mw1 234 (by decide +kernel) rfl
theorem q_235 : Cond.methodLink "PurseCard$Card" (124 : Nat) ⟨"PurseCard$Row", "numberAt", "(II)J"⟩ ∈ mWS := mw1 235 (by decide +kernel) rfl
theorem q_236 : Cond.instanceMethod ⟨"PurseCard$Row", "numberAt", "(II)J"⟩ ∈ mWS := mw1 236 (by decide +kernel) rfl
theorem q_237 : Cond.selects "PurseCard$Row" ⟨"PurseCard$Row", "numberAt", "(II)J"⟩ ⟨"PurseCard$Row", "numberAt", "(II)J"⟩ ∈ mWS := mw1 237 (by decide +kernel) rfl
theorem q_238 : Cond.code ⟨"PurseCard$Row", "numberAt", "(II)J"⟩ prog_4_method_8_code (6 : Nat) (Option.some FieldType.long) ∈ mWS := mw1 238 (by decide +kernel) rfl
theorem q_239 : Cond.constantLong "PurseCard$Row" (27 : Nat) (256 : Int64) ∈ mWS := mw1 239 (by decide +kernel) rfl
theorem q_240 : Cond.methodLink "PurseCard$Row" (19 : Nat) ⟨"PurseCard$Row", "at", "(I)I"⟩ ∈ mWS := mw2 0 (by decide +kernel) rfl
theorem q_241 : Cond.methodLink "PurseCard$Card" (102 : Nat) ⟨"PurseCard$Card", "isKnown", "(I)Z"⟩ ∈ mWS := mw2 1 (by decide +kernel) rfl
theorem q_242 : Cond.static ⟨"PurseCard$Card", "isKnown", "(I)Z"⟩ ∈ mWS := mw2 2 (by decide +kernel) rfl
theorem q_243 : Cond.code ⟨"PurseCard$Card", "isKnown", "(I)Z"⟩ prog_2_method_7_code (1 : Nat) (Option.some FieldType.boolean) ∈ mWS := mw2 3 (by decide +kernel) rfl
theorem q_244 : Cond.methodLink "PurseCard$Card" (106 : Nat) ⟨"PurseCard$Card", "takesParameters", "(III)Z"⟩ ∈ mWS := mw2 4 (by decide +kernel) rfl
theorem q_245 : Cond.static ⟨"PurseCard$Card", "takesParameters", "(III)Z"⟩ ∈ mWS := mw2 5 (by decide +kernel) rfl
theorem q_246 : Cond.code ⟨"PurseCard$Card", "takesParameters", "(III)Z"⟩ prog_2_method_8_code (3 : Nat) (Option.some FieldType.boolean) ∈ mWS := mw2 6 (by decide +kernel) rfl
theorem q_247 : Cond.methodLink "PurseCard$Card" (110 : Nat) ⟨"PurseCard$Card", "fitsStage", "(I)Z"⟩ ∈ mWS := mw2 7 (by decide +kernel) rfl
theorem q_249 : Cond.instanceMethod ⟨"PurseCard$Card", "fitsStage", "(I)Z"⟩ ∈ mWS := mw2 9 (by decide +kernel) rfl
theorem q_250 : Cond.code ⟨"PurseCard$Card", "fitsStage", "(I)Z"⟩ prog_2_method_9_code (2 : Nat) (Option.some FieldType.boolean) ∈ mWS := mw2 10 (by decide +kernel) rfl
theorem q_251 : Cond.constant "PurseCard$Card" (128 : Nat) (65535 : Int32) ∈ mWS := mw2 11 (by decide +kernel) rfl
theorem q_252 : Cond.methodLink "PurseCard$Card" (113 : Nat) ⟨"PurseCard$Card", "dataSize", "(LPurseCard$Row;)I"⟩ ∈ mWS := mw2 12 (by decide +kernel) rfl
theorem q_253 : Cond.static ⟨"PurseCard$Card", "dataSize", "(LPurseCard$Row;)I"⟩ ∈ mWS := mw2 13 (by decide +kernel) rfl
theorem q_254 : Cond.code ⟨"PurseCard$Card", "dataSize", "(LPurseCard$Row;)I"⟩ prog_2_method_6_code (1 : Nat) (Option.some FieldType.int) ∈ mWS := mw2 14 (by decide +kernel) rfl
theorem q_255 : Cond.methodLink "PurseCard$Card" (116 : Nat) ⟨"PurseCard$Card", "takesData", "(II)Z"⟩ ∈ mWS := mw2 15 (by decide +kernel) rfl
theorem q_257 : Cond.instanceMethod ⟨"PurseCard$Card", "takesData", "(II)Z"⟩ ∈ mWS := mw2 17 (by decide +kernel) rfl
theorem q_258 : Cond.code ⟨"PurseCard$Card", "takesData", "(II)Z"⟩ prog_2_method_10_code (3 : Nat) (Option.some FieldType.boolean) ∈ mWS := mw2 18 (by decide +kernel) rfl
theorem q_259 : Cond.constant "PurseCard$Card" (71 : Nat) (36864 : Int32) ∈ mWS := mw2 19 (by decide +kernel) rfl
theorem q_260 : Cond.methodLink "PurseCard$Card" (75 : Nat) ⟨"PurseCard$Card", "select", "(LPurseCard$Row;LPurseCard$Row;)I"⟩ ∈ mWS := mw2 20 (by decide +kernel) rfl
theorem q_262 : Cond.instanceMethod ⟨"PurseCard$Card", "select", "(LPurseCard$Row;LPurseCard$Row;)I"⟩ ∈ mWS := mw2 22 (by decide +kernel) rfl
theorem q_263 : Cond.code ⟨"PurseCard$Card", "select", "(LPurseCard$Row;LPurseCard$Row;)I"⟩ prog_2_method_11_code (7 : Nat) (Option.some FieldType.int) ∈ mWS := mw2 23 (by decide +kernel) rfl
theorem q_264 : Cond.methodLink "PurseCard$Card" (129 : Nat) ⟨"PurseCard$Row", "openTag", "(I)I"⟩ ∈ mWS := mw2 24 (by decide +kernel) rfl
theorem q_265 : Cond.instanceMethod ⟨"PurseCard$Row", "openTag", "(I)I"⟩ ∈ mWS := mw2 25 (by decide +kernel) rfl
theorem q_266 : Cond.selects "PurseCard$Row" ⟨"PurseCard$Row", "openTag", "(I)I"⟩ ⟨"PurseCard$Row", "openTag", "(I)I"⟩ ∈ mWS := mw2 26 (by decide +kernel) rfl
theorem q_267 : Cond.code ⟨"PurseCard$Row", "openTag", "(I)I"⟩ prog_4_method_9_code (2 : Nat) (Option.some FieldType.int) ∈ mWS := mw2 27 (by decide +kernel) rfl
theorem q_268 : Cond.methodLink "PurseCard$Card" (132 : Nat) ⟨"PurseCard$Row", "addRow", "(LPurseCard$Row;)V"⟩ ∈ mWS := mw2 28 (by decide +kernel) rfl
theorem q_269 : Cond.instanceMethod ⟨"PurseCard$Row", "addRow", "(LPurseCard$Row;)V"⟩ ∈ mWS := mw2 29 (by decide +kernel) rfl
theorem q_270 : Cond.selects "PurseCard$Row" ⟨"PurseCard$Row", "addRow", "(LPurseCard$Row;)V"⟩ ⟨"PurseCard$Row", "addRow", "(LPurseCard$Row;)V"⟩ ∈ mWS := mw2 30 (by decide +kernel) rfl
theorem q_271 : Cond.code ⟨"PurseCard$Row", "addRow", "(LPurseCard$Row;)V"⟩ prog_4_method_6_code (3 : Nat) (Option.none : Option FieldType) ∈ mWS := mw2 31 (by decide +kernel) rfl
theorem q_272 : Cond.methodLink "PurseCard$Card" (136 : Nat) ⟨"PurseCard$Row", "closeTag", "(I)V"⟩ ∈ mWS := mw2 32 (by decide +kernel) rfl
theorem q_273 : Cond.instanceMethod ⟨"PurseCard$Row", "closeTag", "(I)V"⟩ ∈ mWS := mw2 33 (by decide +kernel) rfl
theorem q_274 : Cond.selects "PurseCard$Row" ⟨"PurseCard$Row", "closeTag", "(I)V"⟩ ⟨"PurseCard$Row", "closeTag", "(I)V"⟩ ∈ mWS := mw2 34 (by decide +kernel) rfl
theorem q_275 : Cond.code ⟨"PurseCard$Row", "closeTag", "(I)V"⟩ prog_4_method_10_code (2 : Nat) (Option.none : Option FieldType) ∈ mWS := mw2 35 (by decide +kernel) rfl
theorem q_276 : Cond.constantLong "PurseCard$Card" (139 : Nat) (1128354372 : Int64) ∈ mWS := mw2 36 (by decide +kernel) rfl
theorem q_277 : Cond.methodLink "PurseCard$Card" (141 : Nat) ⟨"PurseCard$Row", "addTagged", "(IJI)V"⟩ ∈ mWS := mw2 37 (by decide +kernel) rfl
theorem q_278 : Cond.instanceMethod ⟨"PurseCard$Row", "addTagged", "(IJI)V"⟩ ∈ mWS := mw2 38 (by decide +kernel) rfl
theorem q_279 : Cond.selects "PurseCard$Row" ⟨"PurseCard$Row", "addTagged", "(IJI)V"⟩ ⟨"PurseCard$Row", "addTagged", "(IJI)V"⟩ ∈ mWS := mw2 39 (by decide +kernel) rfl
theorem q_280 : Cond.code ⟨"PurseCard$Row", "addTagged", "(IJI)V"⟩ prog_4_method_11_code (6 : Nat) (Option.none : Option FieldType) ∈ mWS := mw2 40 (by decide +kernel) rfl
theorem q_281 : Cond.methodLink "PurseCard$Row" (29 : Nat) ⟨"PurseCard$Row", "openTag", "(I)I"⟩ ∈ mWS := mw2 41 (by decide +kernel) rfl
theorem q_282 : Cond.methodLink "PurseCard$Row" (32 : Nat) ⟨"PurseCard$Row", "addNumber", "(JI)V"⟩ ∈ mWS := mw2 42 (by decide +kernel) rfl
theorem q_283 : Cond.methodLink "PurseCard$Row" (36 : Nat) ⟨"PurseCard$Row", "closeTag", "(I)V"⟩ ∈ mWS := mw2 43 (by decide +kernel) rfl
theorem q_284 : Cond.constant "PurseCard$Card" (145 : Nat) (40760 : Int32) ∈ mWS := mw2 44 (by decide +kernel) rfl
theorem q_285 : Cond.constantLong "PurseCard$Card" (146 : Nat) (10420742 : Int64) ∈ mWS := mw2 45 (by decide +kernel) rfl
theorem q_286 : Cond.methodLink "PurseCard$Card" (79 : Nat) ⟨"PurseCard$Card", "ready", "(LPurseCard$Row;LPurseCard$Row;)I"⟩ ∈ mWS := mw2 46 (by decide +kernel) rfl
theorem q_288 : Cond.instanceMethod ⟨"PurseCard$Card", "ready", "(LPurseCard$Row;LPurseCard$Row;)I"⟩ ∈ mWS := mw2 48 (by decide +kernel) rfl
theorem q_289 : Cond.code ⟨"PurseCard$Card", "ready", "(LPurseCard$Row;LPurseCard$Row;)I"⟩ prog_2_method_12_code (5 : Nat) (Option.some FieldType.int) ∈ mWS := mw2 49 (by decide +kernel) rfl
theorem q_290 : Cond.constantLong "PurseCard$Card" (148 : Nat) (33542 : Int64) ∈ mWS := mw2 50 (by decide +kernel) rfl
theorem q_291 : Cond.constantLong "PurseCard$Card" (150 : Nat) (6144 : Int64) ∈ mWS := mw2 51 (by decide +kernel) rfl
theorem q_292 : Cond.methodLink "PurseCard$Card" (152 : Nat) ⟨"PurseCard$Files", "count", "(I)I"⟩ ∈ mWS := mw2 52 (by decide +kernel) rfl
theorem q_293 : Cond.instanceMethod ⟨"PurseCard$Files", "count", "(I)I"⟩ ∈ mWS := mw2 53 (by decide +kernel) rfl
theorem q_294 : Cond.selects "PurseCard$Files" ⟨"PurseCard$Files", "count", "(I)I"⟩ ⟨"PurseCard$Files", "count", "(I)I"⟩ ∈ mWS := mw2 54 (by decide +kernel) rfl
theorem q_295 : Cond.code ⟨"PurseCard$Files", "count", "(I)I"⟩ prog_3_method_2_code (2 : Nat) (Option.some FieldType.int) ∈ mWS := mw2 55 (by decide +kernel) rfl
theorem q_296 : Cond.methodLink "PurseCard$Card" (155 : Nat) ⟨"PurseCard$Row", "add", "(I)Z"⟩ ∈ mWS := mw2 56 (by decide +kernel) rfl
theorem q_297 : Cond.methodLink "PurseCard$Card" (82 : Nat) ⟨"PurseCard$Card", "read", "(LPurseCard$Row;LPurseCard$Row;)I"⟩ ∈ mWS := mw2 57 (by decide +kernel) rfl
theorem q_299 : Cond.instanceMethod ⟨"PurseCard$Card", "read", "(LPurseCard$Row;LPurseCard$Row;)I"⟩ ∈ mWS := mw2 59 (by decide +kernel) rfl
theorem q_300 : Cond.code ⟨"PurseCard$Card", "read", "(LPurseCard$Row;LPurseCard$Row;)I"⟩ prog_2_method_13_code (6 : Nat) (Option.some FieldType.int) ∈ mWS := mw2 60 (by decide +kernel) rfl
theorem q_301 : Cond.methodLink "PurseCard$Card" (158 : Nat) ⟨"PurseCard$Files", "copy", "(IILPurseCard$Row;)V"⟩ ∈ mWS := mw2 61 (by decide +kernel) rfl
theorem q_302 : Cond.instanceMethod ⟨"PurseCard$Files", "copy", "(IILPurseCard$Row;)V"⟩ ∈ mWS := mw2 62 (by decide +kernel) rfl
theorem q_303 : Cond.selects "PurseCard$Files" ⟨"PurseCard$Files", "copy", "(IILPurseCard$Row;)V"⟩ ⟨"PurseCard$Files", "copy", "(IILPurseCard$Row;)V"⟩ ∈ mWS := mw2 63 (by decide +kernel) rfl
theorem q_304 : Cond.code ⟨"PurseCard$Files", "copy", "(IILPurseCard$Row;)V"⟩ prog_3_method_4_code (6 : Nat) (Option.none : Option FieldType) ∈ mWS := mw2 64 (by decide +kernel) rfl
theorem q_305 : Cond.methodLink "PurseCard$Files" (21 : Nat) ⟨"PurseCard$Files", "count", "(I)I"⟩ ∈ mWS := mw2 65 (by decide +kernel) rfl
theorem q_306 : Cond.methodLink "PurseCard$Files" (34 : Nat) ⟨"PurseCard$Row", "add", "(I)Z"⟩ ∈ mWS := mw2 66 (by decide +kernel) rfl
theorem q_307 : Cond.methodLink "PurseCard$Card" (85 : Nat) ⟨"PurseCard$Card", "prove", "(LPurseCard$Row;)I"⟩ ∈ mWS := mw2 67 (by decide +kernel) rfl
theorem q_309 : Cond.instanceMethod ⟨"PurseCard$Card", "prove", "(LPurseCard$Row;)I"⟩ ∈ mWS := mw2 69 (by decide +kernel) rfl
theorem q_310 : Cond.code ⟨"PurseCard$Card", "prove", "(LPurseCard$Row;)I"⟩ prog_2_method_14_code (2 : Nat) (Option.some FieldType.int) ∈ mWS := mw2 70 (by decide +kernel) rfl
theorem q_311 : Cond.methodLink "PurseCard$Card" (162 : Nat) ⟨"PurseCard$Card", "holdsDigits", "(LPurseCard$Row;)Z"⟩ ∈ mWS := mw2 71 (by decide +kernel) rfl
theorem q_312 : Cond.static ⟨"PurseCard$Card", "holdsDigits", "(LPurseCard$Row;)Z"⟩ ∈ mWS := mw2 72 (by decide +kernel) rfl
theorem q_313 : Cond.code ⟨"PurseCard$Card", "holdsDigits", "(LPurseCard$Row;)Z"⟩ prog_2_method_15_code (2 : Nat) (Option.some FieldType.boolean) ∈ mWS := mw2 73 (by decide +kernel) rfl
theorem q_314 : Cond.methodLink "PurseCard$Card" (165 : Nat) ⟨"PurseCard$Card", "digitsOf", "(I)I"⟩ ∈ mWS := mw2 74 (by decide +kernel) rfl
theorem q_315 : Cond.static ⟨"PurseCard$Card", "digitsOf", "(I)I"⟩ ∈ mWS := mw2 75 (by decide +kernel) rfl
theorem q_316 : Cond.code ⟨"PurseCard$Card", "digitsOf", "(I)I"⟩ prog_2_method_16_code (3 : Nat) (Option.some FieldType.int) ∈ mWS := mw2 76 (by decide +kernel) rfl
theorem q_317 : Cond.methodLink "PurseCard$Card" (88 : Nat) ⟨"PurseCard$Card", "tell", "(LPurseCard$Row;LPurseCard$Row;)I"⟩ ∈ mWS := mw2 77 (by decide +kernel) rfl
theorem q_319 : Cond.instanceMethod ⟨"PurseCard$Card", "tell", "(LPurseCard$Row;LPurseCard$Row;)I"⟩ ∈ mWS := mw2 79 (by decide +kernel) rfl
theorem q_320 : Cond.code ⟨"PurseCard$Card", "tell", "(LPurseCard$Row;LPurseCard$Row;)I"⟩ prog_2_method_17_code (3 : Nat) (Option.some FieldType.int) ∈ mWS := mw2 80 (by decide +kernel) rfl
theorem q_321 : Cond.constant "PurseCard$Card" (168 : Nat) (40758 : Int32) ∈ mWS := mw2 81 (by decide +kernel) rfl
theorem q_322 : Cond.constant "PurseCard$Card" (169 : Nat) (40727 : Int32) ∈ mWS := mw2 82 (by decide +kernel) rfl
theorem q_323 : Cond.methodLink "PurseCard$Card" (91 : Nat) ⟨"PurseCard$Card", "giveSeal", "(LPurseCard$Row;LPurseCard$Row;)I"⟩ ∈ mWS := mw2 83 (by decide +kernel) rfl
theorem q_325 : Cond.instanceMethod ⟨"PurseCard$Card", "giveSeal", "(LPurseCard$Row;LPurseCard$Row;)I"⟩ ∈ mWS := mw2 85 (by decide +kernel) rfl
theorem q_326 : Cond.code ⟨"PurseCard$Card", "giveSeal", "(LPurseCard$Row;LPurseCard$Row;)I"⟩ prog_2_method_18_code (11 : Nat) (Option.some FieldType.int) ∈ mWS := mw2 86 (by decide +kernel) rfl
theorem q_327 : Cond.methodLink "PurseCard$Card" (170 : Nat) ⟨"PurseCard$Card", "decide", "(IJJ)I"⟩ ∈ mWS := mw2 87 (by decide +kernel) rfl
theorem q_329 : Cond.instanceMethod ⟨"PurseCard$Card", "decide", "(IJJ)I"⟩ ∈ mWS := mw2 89 (by decide +kernel) rfl
theorem q_330 : Cond.code ⟨"PurseCard$Card", "decide", "(IJJ)I"⟩ prog_2_method_19_code (6 : Nat) (Option.some FieldType.int) ∈ mWS := mw2 90 (by decide +kernel) rfl
theorem q_331 : Cond.constantLong "PurseCard$Card" (186 : Nat) (12336 : Int64) ∈ mWS := mw2 91 (by decide +kernel) rfl
theorem q_332 : Cond.methodLink "PurseCard$Card" (174 : Nat) ⟨"PurseCard$Sealer", "payment", "(JJJIZ)LPurseCard$Row;"⟩ ∈ mWS := mw2 92 (by decide +kernel) rfl
theorem q_333 : Cond.instanceMethod ⟨"PurseCard$Sealer", "payment", "(JJJIZ)LPurseCard$Row;"⟩ ∈ mWS := mw2 93 (by decide +kernel) rfl
theorem q_334 : Cond.selects "PurseCard$Sealer" ⟨"PurseCard$Sealer", "payment", "(JJJIZ)LPurseCard$Row;"⟩ ⟨"PurseCard$Sealer", "payment", "(JJJIZ)LPurseCard$Row;"⟩ ∈ mWS := mw2 94 (by decide +kernel) rfl
theorem q_335 : Cond.code ⟨"PurseCard$Sealer", "payment", "(JJJIZ)LPurseCard$Row;"⟩ prog_5_method_3_code (9 : Nat) (Option.some (FieldType.object "PurseCard$Row")) ∈ mWS := mw2 95 (by decide +kernel) rfl
theorem q_336 : Cond.methodLink "PurseCard$Sealer" (56 : Nat) ⟨"PurseCard$Row", "clear", "()V"⟩ ∈ mWS := mw2 96 (by decide +kernel) rfl
theorem q_337 : Cond.methodLink "PurseCard$Sealer" (59 : Nat) ⟨"PurseCard$Row", "addNumber", "(JI)V"⟩ ∈ mWS := mw2 97 (by decide +kernel) rfl
theorem q_338 : Cond.methodLink "PurseCard$Sealer" (63 : Nat) ⟨"PurseCard$Row", "add", "(I)Z"⟩ ∈ mWS := mw2 98 (by decide +kernel) rfl
theorem q_339 : Cond.methodLink "PurseCard$Card" (178 : Nat) ⟨"PurseCard$Sealer", "run", "(LPurseCard$Row;)V"⟩ ∈ mWS := mw2 99 (by decide +kernel) rfl
theorem q_340 : Cond.instanceMethod ⟨"PurseCard$Sealer", "run", "(LPurseCard$Row;)V"⟩ ∈ mWS := mw2 100 (by decide +kernel) rfl
theorem q_341 : Cond.selects "PurseCard$Sealer" ⟨"PurseCard$Sealer", "run", "(LPurseCard$Row;)V"⟩ ⟨"PurseCard$Sealer", "run", "(LPurseCard$Row;)V"⟩ ∈ mWS := mw2 101 (by decide +kernel) rfl
theorem q_342 : Cond.code ⟨"PurseCard$Sealer", "run", "(LPurseCard$Row;)V"⟩ prog_5_method_4_code (9 : Nat) (Option.none : Option FieldType) ∈ mWS := mw2 102 (by decide +kernel) rfl
theorem q_343 : Cond.methodLink "PurseCard$Sealer" (67 : Nat) ⟨"PurseCard$Row", "size", "()I"⟩ ∈ mWS := mw2 103 (by decide +kernel) rfl
theorem q_344 : Cond.methodLink "PurseCard$Sealer" (71 : Nat) ⟨"PurseCard$Row", "at", "(I)I"⟩ ∈ mWS := mw2 104 (by decide +kernel) rfl
theorem q_345 : Cond.constant "PurseCard$Card" (181 : Nat) (40743 : Int32) ∈ mWS := mw2 105 (by decide +kernel) rfl
theorem q_346 : Cond.constant "PurseCard$Card" (182 : Nat) (40742 : Int32) ∈ mWS := mw2 106 (by decide +kernel) rfl
theorem q_347 : Cond.methodLink "PurseCard$Card" (183 : Nat) ⟨"PurseCard$Sealer", "byteAt", "(I)I"⟩ ∈ mWS := mw2 107 (by decide +kernel) rfl
theorem q_348 : Cond.instanceMethod ⟨"PurseCard$Sealer", "byteAt", "(I)I"⟩ ∈ mWS := mw2 108 (by decide +kernel) rfl
theorem q_349 : Cond.selects "PurseCard$Sealer" ⟨"PurseCard$Sealer", "byteAt", "(I)I"⟩ ⟨"PurseCard$Sealer", "byteAt", "(I)I"⟩ ∈ mWS := mw2 109 (by decide +kernel) rfl
theorem q_350 : Cond.code ⟨"PurseCard$Sealer", "byteAt", "(I)I"⟩ prog_5_method_5_code (2 : Nat) (Option.some FieldType.int) ∈ mWS := mw2 110 (by decide +kernel) rfl
theorem q_351 : Cond.methodLink "PurseCardLaw" (35 : Nat) ⟨"PurseCard", "answered", "()I"⟩ ∈ mWS := mw2 111 (by decide +kernel) rfl
theorem q_352 : Cond.instanceMethod ⟨"PurseCard", "answered", "()I"⟩ ∈ mWS := mw2 112 (by decide +kernel) rfl
theorem q_353 : Cond.selects "PurseCard" ⟨"PurseCard", "answered", "()I"⟩ ⟨"PurseCard", "answered", "()I"⟩ ∈ mWS := mw2 113 (by decide +kernel) rfl
theorem q_354 : Cond.code ⟨"PurseCard", "answered", "()I"⟩ prog_1_method_5_code (1 : Nat) (Option.some FieldType.int) ∈ mWS := mw2 114 (by decide +kernel) rfl
theorem q_355 : Cond.methodLink "PurseCardLaw" (39 : Nat) ⟨"PurseCard", "answer", "(I)I"⟩ ∈ mWS := mw2 115 (by decide +kernel) rfl
theorem q_356 : Cond.instanceMethod ⟨"PurseCard", "answer", "(I)I"⟩ ∈ mWS := mw2 116 (by decide +kernel) rfl
theorem q_357 : Cond.selects "PurseCard" ⟨"PurseCard", "answer", "(I)I"⟩ ⟨"PurseCard", "answer", "(I)I"⟩ ∈ mWS := mw2 117 (by decide +kernel) rfl
theorem q_358 : Cond.code ⟨"PurseCard", "answer", "(I)I"⟩ prog_1_method_6_code (2 : Nat) (Option.some FieldType.int) ∈ mWS := mw2 118 (by decide +kernel) rfl
theorem q_359 : Cond.methodLink "PurseCard" (53 : Nat) ⟨"PurseCard$Row", "at", "(I)I"⟩ ∈ mWS := mw2 119 (by decide +kernel) rfl
theorem q_360 : Cond.methodLink "PurseCardLaw" (44 : Nat) ⟨"PurseCard", "find", "(I)I"⟩ ∈ mWS := mw2 120 (by decide +kernel) rfl
theorem q_361 : Cond.instanceMethod ⟨"PurseCard", "find", "(I)I"⟩ ∈ mWS := mw2 121 (by decide +kernel) rfl
theorem q_362 : Cond.selects "PurseCard" ⟨"PurseCard", "find", "(I)I"⟩ ⟨"PurseCard", "find", "(I)I"⟩ ∈ mWS := mw2 122 (by decide +kernel) rfl
theorem q_363 : Cond.code ⟨"PurseCard", "find", "(I)I"⟩ prog_1_method_7_code (2 : Nat) (Option.some FieldType.int) ∈ mWS := mw2 123 (by decide +kernel) rfl
theorem q_364 : Cond.methodLink "PurseCard" (57 : Nat) ⟨"PurseCard$TagSearch", "placeOf", "(ILPurseCard$Row;)I"⟩ ∈ mWS := mw2 124 (by decide +kernel) rfl
theorem q_365 : Cond.instanceMethod ⟨"PurseCard$TagSearch", "placeOf", "(ILPurseCard$Row;)I"⟩ ∈ mWS := mw2 125 (by decide +kernel) rfl
theorem q_366 : Cond.selects "PurseCard$TagSearch" ⟨"PurseCard$TagSearch", "placeOf", "(ILPurseCard$Row;)I"⟩ ⟨"PurseCard$TagSearch", "placeOf", "(ILPurseCard$Row;)I"⟩ ∈ mWS := mw2 126 (by decide +kernel) rfl
theorem q_367 : Cond.code ⟨"PurseCard$TagSearch", "placeOf", "(ILPurseCard$Row;)I"⟩ prog_6_method_2_code (10 : Nat) (Option.some FieldType.int) ∈ mWS := mw2 127 (by decide +kernel) rfl
theorem q_368 : Cond.methodLink "PurseCard$TagSearch" (15 : Nat) ⟨"PurseCard$Row", "size", "()I"⟩ ∈ mWS := mw2 128 (by decide +kernel) rfl
theorem q_369 : Cond.methodLink "PurseCard$TagSearch" (21 : Nat) ⟨"PurseCard$Row", "at", "(I)I"⟩ ∈ mWS := mw2 129 (by decide +kernel) rfl
theorem q_370 : Cond.methodLink "PurseCardLaw" (48 : Nat) ⟨"PurseCard", "keep", "(I)I"⟩ ∈ mWS := mw2 130 (by decide +kernel) rfl
theorem q_371 : Cond.instanceMethod ⟨"PurseCard", "keep", "(I)I"⟩ ∈ mWS := mw2 131 (by decide +kernel) rfl
theorem q_372 : Cond.selects "PurseCard" ⟨"PurseCard", "keep", "(I)I"⟩ ⟨"PurseCard", "keep", "(I)I"⟩ ∈ mWS := mw2 132 (by decide +kernel) rfl
theorem q_373 : Cond.code ⟨"PurseCard", "keep", "(I)I"⟩ prog_1_method_8_code (2 : Nat) (Option.some FieldType.int) ∈ mWS := mw2 133 (by decide +kernel) rfl
theorem q_374 : Cond.methodLink "PurseCard" (65 : Nat) ⟨"PurseCard$Files", "store", "(ILPurseCard$Row;)Z"⟩ ∈ mWS := mw2 134 (by decide +kernel) rfl
theorem q_375 : Cond.instanceMethod ⟨"PurseCard$Files", "store", "(ILPurseCard$Row;)Z"⟩ ∈ mWS := mw2 135 (by decide +kernel) rfl
theorem q_376 : Cond.selects "PurseCard$Files" ⟨"PurseCard$Files", "store", "(ILPurseCard$Row;)Z"⟩ ⟨"PurseCard$Files", "store", "(ILPurseCard$Row;)Z"⟩ ∈ mWS := mw2 136 (by decide +kernel) rfl
theorem q_377 : Cond.code ⟨"PurseCard$Files", "store", "(ILPurseCard$Row;)Z"⟩ prog_3_method_3_code (5 : Nat) (Option.some FieldType.boolean) ∈ mWS := mw2 137 (by decide +kernel) rfl
theorem q_378 : Cond.methodLink "PurseCard$Files" (25 : Nat) ⟨"PurseCard$Row", "size", "()I"⟩ ∈ mWS := mw2 138 (by decide +kernel) rfl
theorem q_379 : Cond.methodLink "PurseCard$Files" (31 : Nat) ⟨"PurseCard$Row", "at", "(I)I"⟩ ∈ mWS := mw2 139 (by decide +kernel) rfl
theorem q_380 : Cond.methodLink "PurseCard" (71 : Nat) ⟨"PurseCard$Files", "count", "(I)I"⟩ ∈ mWS := mw2 140 (by decide +kernel) rfl
theorem q_381 : Cond.methodLink "PurseCardLaw" (54 : Nat) ⟨"PurseCard", "key", "(JJ)V"⟩ ∈ mWS := mw2 141 (by decide +kernel) rfl
theorem q_382 : Cond.instanceMethod ⟨"PurseCard", "key", "(JJ)V"⟩ ∈ mWS := mw2 142 (by decide +kernel) rfl
theorem q_383 : Cond.selects "PurseCard" ⟨"PurseCard", "key", "(JJ)V"⟩ ⟨"PurseCard", "key", "(JJ)V"⟩ ∈ mWS := mw2 143 (by decide +kernel) rfl
theorem q_384 : Cond.code ⟨"PurseCard", "key", "(JJ)V"⟩ prog_1_method_9_code (5 : Nat) (Option.none : Option FieldType) ∈ mWS := mw2 144 (by decide +kernel) rfl
theorem q_385 : Cond.methodLink "PurseCard" (78 : Nat) ⟨"PurseCard$Sealer", "takeKey", "(JJ)V"⟩ ∈ mWS := mw2 145 (by decide +kernel) rfl
theorem q_386 : Cond.methodLink "PurseCardLaw" (59 : Nat) ⟨"PurseCard", "code", "(I)Z"⟩ ∈ mWS := mw2 146 (by decide +kernel) rfl
theorem q_387 : Cond.instanceMethod ⟨"PurseCard", "code", "(I)Z"⟩ ∈ mWS := mw2 147 (by decide +kernel) rfl
theorem q_388 : Cond.selects "PurseCard" ⟨"PurseCard", "code", "(I)Z"⟩ ⟨"PurseCard", "code", "(I)Z"⟩ ∈ mWS := mw2 148 (by decide +kernel) rfl
theorem q_389 : Cond.code ⟨"PurseCard", "code", "(I)Z"⟩ prog_1_method_10_code (2 : Nat) (Option.some FieldType.boolean) ∈ mWS := mw2 149 (by decide +kernel) rfl
theorem q_390 : Cond.methodLink "PurseCardLaw" (63 : Nat) ⟨"PurseCard", "advance", "(I)Z"⟩ ∈ mWS := mw2 150 (by decide +kernel) rfl
theorem q_391 : Cond.instanceMethod ⟨"PurseCard", "advance", "(I)Z"⟩ ∈ mWS := mw2 151 (by decide +kernel) rfl
theorem q_392 : Cond.selects "PurseCard" ⟨"PurseCard", "advance", "(I)Z"⟩ ⟨"PurseCard", "advance", "(I)Z"⟩ ∈ mWS := mw2 152 (by decide +kernel) rfl
theorem q_393 : Cond.code ⟨"PurseCard", "advance", "(I)Z"⟩ prog_1_method_11_code (2 : Nat) (Option.some FieldType.boolean) ∈ mWS := mw2 153 (by decide +kernel) rfl
theorem q_394 : Cond.constant "PurseCard" (94 : Nat) (65535 : Int32) ∈ mWS := mw2 154 (by decide +kernel) rfl
theorem q_395 : Cond.methodLink "PurseCardLaw" (67 : Nat) ⟨"PurseCard", "seal", "(I)I"⟩ ∈ mWS := mw2 155 (by decide +kernel) rfl
theorem q_396 : Cond.instanceMethod ⟨"PurseCard", "seal", "(I)I"⟩ ∈ mWS := mw2 156 (by decide +kernel) rfl
theorem q_397 : Cond.selects "PurseCard" ⟨"PurseCard", "seal", "(I)I"⟩ ⟨"PurseCard", "seal", "(I)I"⟩ ∈ mWS := mw2 157 (by decide +kernel) rfl
theorem q_398 : Cond.code ⟨"PurseCard", "seal", "(I)I"⟩ prog_1_method_12_code (2 : Nat) (Option.some FieldType.int) ∈ mWS := mw2 158 (by decide +kernel) rfl
theorem q_399 : Cond.methodLink "PurseCard" (95 : Nat) ⟨"PurseCard$Sealer", "run", "(LPurseCard$Row;)V"⟩ ∈ mWS := mw2 159 (by decide +kernel) rfl
theorem q_400 : Cond.methodLink "PurseCard" (99 : Nat) ⟨"PurseCard$Sealer", "byteAt", "(I)I"⟩ ∈ mWS := mw2 160 (by decide +kernel) rfl
theorem q_401 : Cond.methodLink "PurseCardLaw" (71 : Nat) ⟨"PurseCard", "genuine", "(JIZ)Z"⟩ ∈ mWS := mw2 161 (by decide +kernel) rfl
theorem q_402 : Cond.instanceMethod ⟨"PurseCard", "genuine", "(JIZ)Z"⟩ ∈ mWS := mw2 162 (by decide +kernel) rfl
theorem q_403 : Cond.selects "PurseCard" ⟨"PurseCard", "genuine", "(JIZ)Z"⟩ ⟨"PurseCard", "genuine", "(JIZ)Z"⟩ ∈ mWS := mw2 163 (by decide +kernel) rfl
theorem q_404 : Cond.code ⟨"PurseCard", "genuine", "(JIZ)Z"⟩ prog_1_method_13_code (10 : Nat) (Option.some FieldType.boolean) ∈ mWS := mw2 164 (by decide +kernel) rfl
theorem q_405 : Cond.methodLink "PurseCard" (102 : Nat) ⟨"PurseCard", "isAmount", "(J)Z"⟩ ∈ mWS := mw2 165 (by decide +kernel) rfl
theorem q_406 : Cond.static ⟨"PurseCard", "isAmount", "(J)Z"⟩ ∈ mWS := mw2 166 (by decide +kernel) rfl
theorem q_407 : Cond.code ⟨"PurseCard", "isAmount", "(J)Z"⟩ prog_1_method_18_code (2 : Nat) (Option.some FieldType.boolean) ∈ mWS := mw2 167 (by decide +kernel) rfl
theorem q_408 : Cond.constantLong "PurseCard" (147 : Nat) (281474976710655 : Int64) ∈ mWS := mw2 168 (by decide +kernel) rfl
theorem q_409 : Cond.constant "PurseCard" (106 : Nat) (40743 : Int32) ∈ mWS := mw2 169 (by decide +kernel) rfl
theorem q_410 : Cond.methodLink "PurseCard" (107 : Nat) ⟨"PurseCard", "placeOfSized", "(II)I"⟩ ∈ mWS := mw2 170 (by decide +kernel) rfl
theorem q_412 : Cond.instanceMethod ⟨"PurseCard", "placeOfSized", "(II)I"⟩ ∈ mWS := mw2 172 (by decide +kernel) rfl
theorem q_413 : Cond.code ⟨"PurseCard", "placeOfSized", "(II)I"⟩ prog_1_method_19_code (4 : Nat) (Option.some FieldType.int) ∈ mWS := mw2 173 (by decide +kernel) rfl
theorem q_414 : Cond.constant "PurseCard" (111 : Nat) (40758 : Int32) ∈ mWS := mw2 174 (by decide +kernel) rfl
theorem q_415 : Cond.constant "PurseCard" (112 : Nat) (40742 : Int32) ∈ mWS := mw2 175 (by decide +kernel) rfl
theorem q_416 : Cond.methodLink "PurseCard" (113 : Nat) ⟨"PurseCard$Row", "numberAt", "(II)J"⟩ ∈ mWS := mw2 176 (by decide +kernel) rfl
theorem q_417 : Cond.methodLink "PurseCard" (117 : Nat) ⟨"PurseCard$Sealer", "payment", "(JJJIZ)LPurseCard$Row;"⟩ ∈ mWS := mw2 177 (by decide +kernel) rfl
theorem q_418 : Cond.methodLink "PurseCardLaw" (76 : Nat) ⟨"PurseCard", "pay", "(JJIIZ)I"⟩ ∈ mWS := mw2 178 (by decide +kernel) rfl
theorem q_419 : Cond.instanceMethod ⟨"PurseCard", "pay", "(JJIIZ)I"⟩ ∈ mWS := mw2 179 (by decide +kernel) rfl
theorem q_420 : Cond.selects "PurseCard" ⟨"PurseCard", "pay", "(JJIIZ)I"⟩ ⟨"PurseCard", "pay", "(JJIIZ)I"⟩ ∈ mWS := mw2 180 (by decide +kernel) rfl
theorem q_421 : Cond.code ⟨"PurseCard", "pay", "(JJIIZ)I"⟩ prog_1_method_14_code (11 : Nat) (Option.some FieldType.int) ∈ mWS := mw2 181 (by decide +kernel) rfl
theorem q_422 : Cond.methodLink "PurseCard" (121 : Nat) ⟨"PurseCard", "openPayment", "(J)I"⟩ ∈ mWS := mw2 182 (by decide +kernel) rfl
theorem q_424 : Cond.instanceMethod ⟨"PurseCard", "openPayment", "(J)I"⟩ ∈ mWS := mw2 184 (by decide +kernel) rfl
theorem q_425 : Cond.code ⟨"PurseCard", "openPayment", "(J)I"⟩ prog_1_method_21_code (4 : Nat) (Option.some FieldType.int) ∈ mWS := mw2 185 (by decide +kernel) rfl
theorem q_426 : Cond.methodLink "PurseCard" (149 : Nat) ⟨"PurseCard", "typeHead", "(IIII)V"⟩ ∈ mWS := mw2 186 (by decide +kernel) rfl
theorem q_428 : Cond.instanceMethod ⟨"PurseCard", "typeHead", "(IIII)V"⟩ ∈ mWS := mw2 188 (by decide +kernel) rfl
theorem q_429 : Cond.code ⟨"PurseCard", "typeHead", "(IIII)V"⟩ prog_1_method_25_code (5 : Nat) (Option.none : Option FieldType) ∈ mWS := mw2 189 (by decide +kernel) rfl
theorem q_430 : Cond.methodLink "PurseCard" (162 : Nat) ⟨"PurseCard$Row", "addNumber", "(JI)V"⟩ ∈ mWS := mw2 190 (by decide +kernel) rfl
theorem q_431 : Cond.methodLink "PurseCard" (156 : Nat) ⟨"PurseCard$Row", "addRow", "(LPurseCard$Row;)V"⟩ ∈ mWS := mw2 191 (by decide +kernel) rfl
theorem q_432 : Cond.constant "PurseCard" (125 : Nat) (36864 : Int32) ∈ mWS := mw2 192 (by decide +kernel) rfl
theorem q_433 : Cond.constant "PurseCard" (159 : Nat) (32936 : Int32) ∈ mWS := mw2 193 (by decide +kernel) rfl
theorem q_434 : Cond.constantLong "PurseCard" (160 : Nat) (33542 : Int64) ∈ mWS := mw2 194 (by decide +kernel) rfl
theorem q_435 : Cond.methodLink "PurseCard" (126 : Nat) ⟨"PurseCard", "readRecords", "()I"⟩ ∈ mWS := mw2 195 (by decide +kernel) rfl
theorem q_437 : Cond.instanceMethod ⟨"PurseCard", "readRecords", "()I"⟩ ∈ mWS := mw2 197 (by decide +kernel) rfl
theorem q_438 : Cond.code ⟨"PurseCard", "readRecords", "()I"⟩ prog_1_method_22_code (4 : Nat) (Option.some FieldType.int) ∈ mWS := mw2 198 (by decide +kernel) rfl
theorem q_439 : Cond.methodLink "PurseCard" (129 : Nat) ⟨"PurseCard", "provePin", "(I)I"⟩ ∈ mWS := mw2 199 (by decide +kernel) rfl
theorem q_441 : Cond.instanceMethod ⟨"PurseCard", "provePin", "(I)I"⟩ ∈ mWS := mw2 201 (by decide +kernel) rfl
theorem q_442 : Cond.code ⟨"PurseCard", "provePin", "(I)I"⟩ prog_1_method_23_code (3 : Nat) (Option.some FieldType.int) ∈ mWS := mw2 202 (by decide +kernel) rfl
theorem q_443 : Cond.constant "PurseCard" (132 : Nat) (65520 : Int32) ∈ mWS := mw2 203 (by decide +kernel) rfl
theorem q_444 : Cond.methodLink "PurseCard" (133 : Nat) ⟨"PurseCard", "typeSeal", "(IJII)V"⟩ ∈ mWS := mw2 204 (by decide +kernel) rfl
theorem q_446 : Cond.instanceMethod ⟨"PurseCard", "typeSeal", "(IJII)V"⟩ ∈ mWS := mw2 206 (by decide +kernel) rfl
theorem q_447 : Cond.code ⟨"PurseCard", "typeSeal", "(IJII)V"⟩ prog_1_method_24_code (6 : Nat) (Option.none : Option FieldType) ∈ mWS := mw2 207 (by decide +kernel) rfl
theorem q_448 : Cond.constant "PurseCard" (166 : Nat) (32942 : Int32) ∈ mWS := mw2 208 (by decide +kernel) rfl
theorem q_449 : Cond.methodLink "PurseCard" (137 : Nat) ⟨"PurseCard", "givenByCard", "()I"⟩ ∈ mWS := mw2 209 (by decide +kernel) rfl
theorem q_451 : Cond.instanceMethod ⟨"PurseCard", "givenByCard", "()I"⟩ ∈ mWS := mw2 211 (by decide +kernel) rfl
theorem q_452 : Cond.code ⟨"PurseCard", "givenByCard", "()I"⟩ prog_1_method_20_code (1 : Nat) (Option.some FieldType.int) ∈ mWS := mw2 212 (by decide +kernel) rfl
theorem q_453 : Cond.methodLink "PurseCard" (140 : Nat) ⟨"PurseCard", "genuine", "(JIZ)Z"⟩ ∈ mWS := mw2 213 (by decide +kernel) rfl
theorem q_454 : Cond.methodLink "PurseCardLaw" (81 : Nat) ⟨"PurseCard", "stage", "()I"⟩ ∈ mWS := mw2 214 (by decide +kernel) rfl
theorem q_455 : Cond.instanceMethod ⟨"PurseCard", "stage", "()I"⟩ ∈ mWS := mw2 215 (by decide +kernel) rfl
theorem q_456 : Cond.selects "PurseCard" ⟨"PurseCard", "stage", "()I"⟩ ⟨"PurseCard", "stage", "()I"⟩ ∈ mWS := mw2 216 (by decide +kernel) rfl
theorem q_457 : Cond.code ⟨"PurseCard", "stage", "()I"⟩ prog_1_method_15_code (1 : Nat) (Option.some FieldType.int) ∈ mWS := mw2 217 (by decide +kernel) rfl
theorem q_458 : Cond.methodLink "PurseCardLaw" (85 : Nat) ⟨"PurseCard", "counter", "()I"⟩ ∈ mWS := mw2 218 (by decide +kernel) rfl
theorem q_459 : Cond.instanceMethod ⟨"PurseCard", "counter", "()I"⟩ ∈ mWS := mw2 219 (by decide +kernel) rfl
theorem q_460 : Cond.selects "PurseCard" ⟨"PurseCard", "counter", "()I"⟩ ⟨"PurseCard", "counter", "()I"⟩ ∈ mWS := mw2 220 (by decide +kernel) rfl
theorem q_461 : Cond.code ⟨"PurseCard", "counter", "()I"⟩ prog_1_method_16_code (1 : Nat) (Option.some FieldType.int) ∈ mWS := mw2 221 (by decide +kernel) rfl
theorem q_462 : Cond.methodLink "PurseCardLaw" (89 : Nat) ⟨"PurseCard", "tries", "()I"⟩ ∈ mWS := mw2 222 (by decide +kernel) rfl
theorem q_463 : Cond.instanceMethod ⟨"PurseCard", "tries", "()I"⟩ ∈ mWS := mw2 223 (by decide +kernel) rfl
theorem q_464 : Cond.selects "PurseCard" ⟨"PurseCard", "tries", "()I"⟩ ⟨"PurseCard", "tries", "()I"⟩ ∈ mWS := mw2 224 (by decide +kernel) rfl
theorem q_465 : Cond.code ⟨"PurseCard", "tries", "()I"⟩ prog_1_method_17_code (1 : Nat) (Option.some FieldType.int) ∈ mWS := mw2 225 (by decide +kernel) rfl
theorem q_466 : Cond.methodLink "PurseCardLaw" (9 : Nat) ⟨"PurseCardLaw", "cell", "([II)I"⟩ ∈ mWS := mw2 226 (by decide +kernel) rfl
theorem q_467 : Cond.static ⟨"PurseCardLaw", "cell", "([II)I"⟩ ∈ mWS := mw2 227 (by decide +kernel) rfl
theorem q_468 : Cond.code ⟨"PurseCardLaw", "cell", "([II)I"⟩ method_2_code (2 : Nat) (Option.some FieldType.int) ∈ mWS := mw2 228 (by decide +kernel) rfl
theorem q_469 : Cond.classLink "PurseCardLaw" (18 : Nat) "PurseCardModel" ∈ mWS := mw2 229 (by decide +kernel) rfl
theorem q_470 : Cond.instantiable "PurseCardModel" (25 : Nat) ∈ mWS := mw2 230 (by decide +kernel) rfl
theorem q_471 : Cond.methodLink "PurseCardLaw" (20 : Nat) ⟨"PurseCardModel", "<init>", "(I)V"⟩ ∈ mWS := mw2 231 (by decide +kernel) rfl
theorem q_472 : Cond.instanceMethod ⟨"PurseCardModel", "<init>", "(I)V"⟩ ∈ mWS := mw2 232 (by decide +kernel) rfl
theorem q_473 : Cond.code ⟨"PurseCardModel", "<init>", "(I)V"⟩ prog_8_method_1_code (3 : Nat) (Option.none : Option FieldType) ∈ mWS := mw2 233 (by decide +kernel) rfl
theorem q_474 : Cond.methodLink "PurseCardModel" (1 : Nat) ⟨"java/lang/Object", "<init>", "()V"⟩ ∈ mWS := mw2 234 (by decide +kernel) rfl
theorem q_475 : Cond.methodLink "PurseCardModel" (65 : Nat) ⟨"PurseCardModel", "substitute", "(I)I"⟩ ∈ mWS := mw2 235 (by decide +kernel) rfl
theorem q_476 : Cond.static ⟨"PurseCardModel", "substitute", "(I)I"⟩ ∈ mWS := mw2 236 (by decide +kernel) rfl
theorem q_477 : Cond.code ⟨"PurseCardModel", "substitute", "(I)I"⟩ prog_8_method_4_code (5 : Nat) (Option.some FieldType.int) ∈ mWS := mw2 237 (by decide +kernel) rfl
theorem q_478 : Cond.methodLink "PurseCardModel" (76 : Nat) ⟨"PurseCardModel", "inverse", "(I)I"⟩ ∈ mWS := mw2 238 (by decide +kernel) rfl
theorem q_479 : Cond.static ⟨"PurseCardModel", "inverse", "(I)I"⟩ ∈ mWS := mw2 239 (by decide +kernel) rfl
theorem q_480 : Cond.code ⟨"PurseCardModel", "inverse", "(I)I"⟩ prog_8_method_3_code (3 : Nat) (Option.some FieldType.int) ∈ mWS := mw3 0 (by decide +kernel) rfl
theorem q_481 : Cond.methodLink "PurseCardModel" (72 : Nat) ⟨"PurseCardModel", "times", "(II)I"⟩ ∈ mWS := mw3 1 (by decide +kernel) rfl
theorem q_482 : Cond.static ⟨"PurseCardModel", "times", "(II)I"⟩ ∈ mWS := mw3 2 (by decide +kernel) rfl
theorem q_483 : Cond.code ⟨"PurseCardModel", "times", "(II)I"⟩ prog_8_method_2_code (5 : Nat) (Option.some FieldType.int) ∈ mWS := mw3 3 (by decide +kernel) rfl
theorem q_484 : Cond.methodLink "PurseCardModel" (69 : Nat) ⟨"PurseCardModel", "expand", "()V"⟩ ∈ mWS := mw3 4 (by decide +kernel) rfl
theorem q_486 : Cond.instanceMethod ⟨"PurseCardModel", "expand", "()V"⟩ ∈ mWS := mw3 6 (by decide +kernel) rfl
theorem q_487 : Cond.code ⟨"PurseCardModel", "expand", "()V"⟩ prog_8_method_5_code (6 : Nat) (Option.none : Option FieldType) ∈ mWS := mw3 7 (by decide +kernel) rfl
theorem q_488 : Cond.fieldLink "PurseCardModel" (7 : Nat) "PurseCardModel" "key" "[I" ∈ mWS := mw3 8 (by decide +kernel) rfl
theorem q_489 : Cond.fieldLink "PurseCardModel" (13 : Nat) "PurseCardModel" "digits" "[I" ∈ mWS := mw3 9 (by decide +kernel) rfl
theorem q_490 : Cond.fieldLink "PurseCardModel" (16 : Nat) "PurseCardModel" "name" "[I" ∈ mWS := mw3 10 (by decide +kernel) rfl
theorem q_491 : Cond.fieldLink "PurseCardModel" (19 : Nat) "PurseCardModel" "records" "[I" ∈ mWS := mw3 11 (by decide +kernel) rfl
theorem q_492 : Cond.fieldLink "PurseCardModel" (22 : Nat) "PurseCardModel" "recordLength" "[I" ∈ mWS := mw3 12 (by decide +kernel) rfl
theorem q_493 : Cond.fieldLink "PurseCardModel" (25 : Nat) "PurseCardModel" "recordByte" "[I" ∈ mWS := mw3 13 (by decide +kernel) rfl
theorem q_494 : Cond.fieldLink "PurseCardModel" (112 : Nat) "PurseCardModel" "counter" "I" ∈ mWS := mw3 14 (by decide +kernel) rfl
theorem q_495 : Cond.fieldLink "PurseCardModel" (28 : Nat) "PurseCardModel" "tries" "I" ∈ mWS := mw3 15 (by decide +kernel) rfl
theorem q_496 : Cond.fieldLink "PurseCardModel" (173 : Nat) "PurseCardModel" "alone" "I" ∈ mWS := mw3 16 (by decide +kernel) rfl
theorem q_497 : Cond.fieldLink "PurseCardModel" (109 : Nat) "PurseCardModel" "stage" "I" ∈ mWS := mw3 17 (by decide +kernel) rfl
theorem q_498 : Cond.fieldLink "PurseCardModel" (162 : Nat) "PurseCardModel" "amount" "J" ∈ mWS := mw3 18 (by decide +kernel) rfl
theorem q_499 : Cond.fieldLink "PurseCardModel" (166 : Nat) "PurseCardModel" "proven" "Z" ∈ mWS := mw3 19 (by decide +kernel) rfl
theorem q_500 : Cond.fieldLink "PurseCardModel" (97 : Nat) "PurseCardModel" "typed" "I" ∈ mWS := mw3 20 (by decide +kernel) rfl
theorem q_501 : Cond.fieldLink "PurseCardModel" (32 : Nat) "PurseCardModel" "row" "[I" ∈ mWS := mw3 21 (by decide +kernel) rfl
theorem q_502 : Cond.fieldLink "PurseCardModel" (100 : Nat) "PurseCardModel" "size" "I" ∈ mWS := mw3 22 (by decide +kernel) rfl
theorem q_503 : Cond.fieldLink "PurseCardModel" (35 : Nat) "PurseCardModel" "out" "[I" ∈ mWS := mw3 23 (by decide +kernel) rfl
theorem q_504 : Cond.fieldLink "PurseCardModel" (38 : Nat) "PurseCardModel" "entries" "[I" ∈ mWS := mw3 24 (by decide +kernel) rfl
theorem q_505 : Cond.fieldLink "PurseCardModel" (41 : Nat) "PurseCardModel" "table" "[I" ∈ mWS := mw3 25 (by decide +kernel) rfl
theorem q_506 : Cond.fieldLink "PurseCardModel" (44 : Nat) "PurseCardModel" "round" "[I" ∈ mWS := mw3 26 (by decide +kernel) rfl
theorem q_507 : Cond.fieldLink "PurseCardModel" (47 : Nat) "PurseCardModel" "block" "[I" ∈ mWS := mw3 27 (by decide +kernel) rfl
theorem q_508 : Cond.fieldLink "PurseCardModel" (50 : Nat) "PurseCardModel" "moved" "[I" ∈ mWS := mw3 28 (by decide +kernel) rfl
theorem q_509 : Cond.fieldLink "PurseCardModel" (53 : Nat) "PurseCardModel" "sealed" "[I" ∈ mWS := mw3 29 (by decide +kernel) rfl
theorem q_510 : Cond.fieldLink "PurseCardModel" (56 : Nat) "PurseCardModel" "result" "[I" ∈ mWS := mw3 30 (by decide +kernel) rfl
theorem q_511 : Cond.fieldLink "PurseCardModel" (59 : Nat) "PurseCardModel" "mask" "[I" ∈ mWS := mw3 31 (by decide +kernel) rfl
theorem q_512 : Cond.fieldLink "PurseCardModel" (62 : Nat) "PurseCardModel" "ends" "[I" ∈ mWS := mw3 32 (by decide +kernel) rfl
theorem q_513 : Cond.lays "PurseCardModel" "PurseCardModel" "key" "[I" ∈ mWS := mw3 33 (by decide +kernel) rfl
theorem q_515 : Cond.lays "PurseCardModel" "PurseCardModel" "digits" "[I" ∈ mWS := mw3 35 (by decide +kernel) rfl
theorem q_517 : Cond.lays "PurseCardModel" "PurseCardModel" "name" "[I" ∈ mWS := mw3 37 (by decide +kernel) rfl
theorem q_519 : Cond.lays "PurseCardModel" "PurseCardModel" "records" "[I" ∈ mWS := mw3 39 (by decide +kernel) rfl
theorem q_521 : Cond.lays "PurseCardModel" "PurseCardModel" "recordLength" "[I" ∈ mWS := mw3 41 (by decide +kernel) rfl
theorem q_523 : Cond.lays "PurseCardModel" "PurseCardModel" "recordByte" "[I" ∈ mWS := mw3 43 (by decide +kernel) rfl
theorem q_525 : Cond.lays "PurseCardModel" "PurseCardModel" "counter" "I" ∈ mWS := mw3 45 (by decide +kernel) rfl
theorem q_527 : Cond.lays "PurseCardModel" "PurseCardModel" "tries" "I" ∈ mWS := mw3 47 (by decide +kernel) rfl
theorem q_529 : Cond.lays "PurseCardModel" "PurseCardModel" "alone" "I" ∈ mWS := mw3 49 (by decide +kernel) rfl
theorem q_531 : Cond.lays "PurseCardModel" "PurseCardModel" "stage" "I" ∈ mWS := mw3 51 (by decide +kernel) rfl
theorem q_533 : Cond.lays "PurseCardModel" "PurseCardModel" "amount" "J" ∈ mWS := mw3 53 (by decide +kernel) rfl
theorem q_535 : Cond.lays "PurseCardModel" "PurseCardModel" "proven" "Z" ∈ mWS := mw3 55 (by decide +kernel) rfl
theorem q_537 : Cond.lays "PurseCardModel" "PurseCardModel" "typed" "I" ∈ mWS := mw3 57 (by decide +kernel) rfl
theorem q_539 : Cond.lays "PurseCardModel" "PurseCardModel" "row" "[I" ∈ mWS := mw3 59 (by decide +kernel) rfl
theorem q_541 : Cond.lays "PurseCardModel" "PurseCardModel" "size" "I" ∈ mWS := mw3 61 (by decide +kernel) rfl
theorem q_543 : Cond.lays "PurseCardModel" "PurseCardModel" "out" "[I" ∈ mWS := mw3 63 (by decide +kernel) rfl
theorem q_545 : Cond.lays "PurseCardModel" "PurseCardModel" "entries" "[I" ∈ mWS := mw3 65 (by decide +kernel) rfl
theorem q_547 : Cond.lays "PurseCardModel" "PurseCardModel" "table" "[I" ∈ mWS := mw3 67 (by decide +kernel) rfl
theorem q_549 : Cond.lays "PurseCardModel" "PurseCardModel" "round" "[I" ∈ mWS := mw3 69 (by decide +kernel) rfl
theorem q_551 : Cond.lays "PurseCardModel" "PurseCardModel" "block" "[I" ∈ mWS := mw3 71 (by decide +kernel) rfl
theorem q_553 : Cond.lays "PurseCardModel" "PurseCardModel" "moved" "[I" ∈ mWS := mw3 73 (by decide +kernel) rfl
theorem q_555 : Cond.lays "PurseCardModel" "PurseCardModel" "sealed" "[I" ∈ mWS := mw3 75 (by decide +kernel) rfl
theorem q_557 : Cond.lays "PurseCardModel" "PurseCardModel" "result" "[I" ∈ mWS := mw3 77 (by decide +kernel) rfl
theorem q_559 : Cond.lays "PurseCardModel" "PurseCardModel" "mask" "[I" ∈ mWS := mw3 79 (by decide +kernel) rfl
theorem q_561 : Cond.lays "PurseCardModel" "PurseCardModel" "ends" "[I" ∈ mWS := mw3 81 (by decide +kernel) rfl
theorem q_564 : Cond.methodLink "PurseCardLaw" (25 : Nat) ⟨"PurseCardModel", "put", "(I)Z"⟩ ∈ mWS := mw3 84 (by decide +kernel) rfl
theorem q_565 : Cond.instanceMethod ⟨"PurseCardModel", "put", "(I)Z"⟩ ∈ mWS := mw3 85 (by decide +kernel) rfl
theorem q_566 : Cond.selects "PurseCardModel" ⟨"PurseCardModel", "put", "(I)Z"⟩ ⟨"PurseCardModel", "put", "(I)Z"⟩ ∈ mWS := mw3 86 (by decide +kernel) rfl
theorem q_567 : Cond.code ⟨"PurseCardModel", "put", "(I)Z"⟩ prog_8_method_12_code (2 : Nat) (Option.some FieldType.boolean) ∈ mWS := mw3 87 (by decide +kernel) rfl
theorem q_568 : Cond.methodLink "PurseCardLaw" (30 : Nat) ⟨"PurseCardModel", "wipe", "()I"⟩ ∈ mWS := mw3 88 (by decide +kernel) rfl
theorem q_569 : Cond.instanceMethod ⟨"PurseCardModel", "wipe", "()I"⟩ ∈ mWS := mw3 89 (by decide +kernel) rfl
theorem q_570 : Cond.selects "PurseCardModel" ⟨"PurseCardModel", "wipe", "()I"⟩ ⟨"PurseCardModel", "wipe", "()I"⟩ ∈ mWS := mw3 90 (by decide +kernel) rfl
theorem q_571 : Cond.code ⟨"PurseCardModel", "wipe", "()I"⟩ prog_8_method_13_code (2 : Nat) (Option.some FieldType.int) ∈ mWS := mw3 91 (by decide +kernel) rfl
theorem q_572 : Cond.methodLink "PurseCardLaw" (38 : Nat) ⟨"PurseCardModel", "answered", "()I"⟩ ∈ mWS := mw3 92 (by decide +kernel) rfl
theorem q_573 : Cond.instanceMethod ⟨"PurseCardModel", "answered", "()I"⟩ ∈ mWS := mw3 93 (by decide +kernel) rfl
theorem q_574 : Cond.selects "PurseCardModel" ⟨"PurseCardModel", "answered", "()I"⟩ ⟨"PurseCardModel", "answered", "()I"⟩ ∈ mWS := mw3 94 (by decide +kernel) rfl
theorem q_575 : Cond.code ⟨"PurseCardModel", "answered", "()I"⟩ prog_8_method_16_code (1 : Nat) (Option.some FieldType.int) ∈ mWS := mw3 95 (by decide +kernel) rfl
theorem q_576 : Cond.methodLink "PurseCardLaw" (43 : Nat) ⟨"PurseCardModel", "answer", "(I)I"⟩ ∈ mWS := mw3 96 (by decide +kernel) rfl
theorem q_577 : Cond.instanceMethod ⟨"PurseCardModel", "answer", "(I)I"⟩ ∈ mWS := mw3 97 (by decide +kernel) rfl
theorem q_578 : Cond.selects "PurseCardModel" ⟨"PurseCardModel", "answer", "(I)I"⟩ ⟨"PurseCardModel", "answer", "(I)I"⟩ ∈ mWS := mw3 98 (by decide +kernel) rfl
theorem q_579 : Cond.code ⟨"PurseCardModel", "answer", "(I)I"⟩ prog_8_method_17_code (2 : Nat) (Option.some FieldType.int) ∈ mWS := mw3 99 (by decide +kernel) rfl
theorem q_580 : Cond.methodLink "PurseCardLaw" (34 : Nat) ⟨"PurseCardModel", "send", "()I"⟩ ∈ mWS := mw3 100 (by decide +kernel) rfl
theorem q_581 : Cond.instanceMethod ⟨"PurseCardModel", "send", "()I"⟩ ∈ mWS := mw3 101 (by decide +kernel) rfl
theorem q_582 : Cond.selects "PurseCardModel" ⟨"PurseCardModel", "send", "()I"⟩ ⟨"PurseCardModel", "send", "()I"⟩ ∈ mWS := mw3 102 (by decide +kernel) rfl
theorem q_583 : Cond.code ⟨"PurseCardModel", "send", "()I"⟩ prog_8_method_23_code (2 : Nat) (Option.some FieldType.int) ∈ mWS := mw3 103 (by decide +kernel) rfl
theorem q_584 : Cond.methodLink "PurseCardModel" (148 : Nat) ⟨"PurseCardModel", "take", "()I"⟩ ∈ mWS := mw3 104 (by decide +kernel) rfl
theorem q_586 : Cond.instanceMethod ⟨"PurseCardModel", "take", "()I"⟩ ∈ mWS := mw3 106 (by decide +kernel) rfl
theorem q_587 : Cond.code ⟨"PurseCardModel", "take", "()I"⟩ prog_8_method_22_code (2 : Nat) (Option.some FieldType.int) ∈ mWS := mw3 107 (by decide +kernel) rfl
theorem q_588 : Cond.methodLink "PurseCardModel" (116 : Nat) ⟨"PurseCardModel", "command", "()I"⟩ ∈ mWS := mw3 108 (by decide +kernel) rfl
theorem q_590 : Cond.instanceMethod ⟨"PurseCardModel", "command", "()I"⟩ ∈ mWS := mw3 110 (by decide +kernel) rfl
theorem q_591 : Cond.code ⟨"PurseCardModel", "command", "()I"⟩ prog_8_method_18_code (2 : Nat) (Option.some FieldType.int) ∈ mWS := mw3 111 (by decide +kernel) rfl
theorem q_592 : Cond.constant "PurseCardModel" (106 : Nat) (32936 : Int32) ∈ mWS := mw3 112 (by decide +kernel) rfl
theorem q_593 : Cond.constant "PurseCardModel" (107 : Nat) (32970 : Int32) ∈ mWS := mw3 113 (by decide +kernel) rfl
theorem q_594 : Cond.constant "PurseCardModel" (108 : Nat) (32942 : Int32) ∈ mWS := mw3 114 (by decide +kernel) rfl
theorem q_595 : Cond.methodLink "PurseCardModel" (120 : Nat) ⟨"PurseCardModel", "parametersFit", "(I)Z"⟩ ∈ mWS := mw3 115 (by decide +kernel) rfl
theorem q_597 : Cond.instanceMethod ⟨"PurseCardModel", "parametersFit", "(I)Z"⟩ ∈ mWS := mw3 117 (by decide +kernel) rfl
theorem q_598 : Cond.code ⟨"PurseCardModel", "parametersFit", "(I)Z"⟩ prog_8_method_19_code (4 : Nat) (Option.some FieldType.boolean) ∈ mWS := mw3 118 (by decide +kernel) rfl
theorem q_599 : Cond.methodLink "PurseCardModel" (124 : Nat) ⟨"PurseCardModel", "stageFits", "(I)Z"⟩ ∈ mWS := mw3 119 (by decide +kernel) rfl
theorem q_601 : Cond.instanceMethod ⟨"PurseCardModel", "stageFits", "(I)Z"⟩ ∈ mWS := mw3 121 (by decide +kernel) rfl
theorem q_602 : Cond.code ⟨"PurseCardModel", "stageFits", "(I)Z"⟩ prog_8_method_20_code (2 : Nat) (Option.some FieldType.boolean) ∈ mWS := mw3 122 (by decide +kernel) rfl
theorem q_603 : Cond.constant "PurseCardModel" (115 : Nat) (65535 : Int32) ∈ mWS := mw3 123 (by decide +kernel) rfl
theorem q_604 : Cond.methodLink "PurseCardModel" (127 : Nat) ⟨"PurseCardModel", "lengthFits", "(I)Z"⟩ ∈ mWS := mw3 124 (by decide +kernel) rfl
theorem q_606 : Cond.instanceMethod ⟨"PurseCardModel", "lengthFits", "(I)Z"⟩ ∈ mWS := mw3 126 (by decide +kernel) rfl
theorem q_607 : Cond.code ⟨"PurseCardModel", "lengthFits", "(I)Z"⟩ prog_8_method_21_code (3 : Nat) (Option.some FieldType.boolean) ∈ mWS := mw3 127 (by decide +kernel) rfl
theorem q_608 : Cond.methodLink "PurseCardModel" (130 : Nat) ⟨"PurseCardModel", "select", "()I"⟩ ∈ mWS := mw3 128 (by decide +kernel) rfl
theorem q_610 : Cond.instanceMethod ⟨"PurseCardModel", "select", "()I"⟩ ∈ mWS := mw3 130 (by decide +kernel) rfl
theorem q_611 : Cond.code ⟨"PurseCardModel", "select", "()I"⟩ prog_8_method_24_code (3 : Nat) (Option.some FieldType.int) ∈ mWS := mw3 131 (by decide +kernel) rfl
theorem q_612 : Cond.methodLink "PurseCardModel" (151 : Nat) ⟨"PurseCardModel", "say2", "(II)V"⟩ ∈ mWS := mw3 132 (by decide +kernel) rfl
theorem q_614 : Cond.instanceMethod ⟨"PurseCardModel", "say2", "(II)V"⟩ ∈ mWS := mw3 134 (by decide +kernel) rfl
theorem q_615 : Cond.code ⟨"PurseCardModel", "say2", "(II)V"⟩ prog_8_method_15_code (3 : Nat) (Option.none : Option FieldType) ∈ mWS := mw3 135 (by decide +kernel) rfl
theorem q_616 : Cond.methodLink "PurseCardModel" (103 : Nat) ⟨"PurseCardModel", "say", "(I)V"⟩ ∈ mWS := mw3 136 (by decide +kernel) rfl
theorem q_618 : Cond.instanceMethod ⟨"PurseCardModel", "say", "(I)V"⟩ ∈ mWS := mw3 138 (by decide +kernel) rfl
theorem q_619 : Cond.code ⟨"PurseCardModel", "say", "(I)V"⟩ prog_8_method_14_code (2 : Nat) (Option.none : Option FieldType) ∈ mWS := mw3 139 (by decide +kernel) rfl
theorem q_620 : Cond.constant "PurseCardModel" (155 : Nat) (36864 : Int32) ∈ mWS := mw3 140 (by decide +kernel) rfl
theorem q_621 : Cond.methodLink "PurseCardModel" (133 : Nat) ⟨"PurseCardModel", "ready", "()I"⟩ ∈ mWS := mw3 141 (by decide +kernel) rfl
theorem q_623 : Cond.instanceMethod ⟨"PurseCardModel", "ready", "()I"⟩ ∈ mWS := mw3 143 (by decide +kernel) rfl
theorem q_624 : Cond.code ⟨"PurseCardModel", "ready", "()I"⟩ prog_8_method_26_code (3 : Nat) (Option.some FieldType.int) ∈ mWS := mw3 144 (by decide +kernel) rfl
theorem q_625 : Cond.methodLink "PurseCardModel" (158 : Nat) ⟨"PurseCardModel", "sixFrom", "(I)J"⟩ ∈ mWS := mw3 145 (by decide +kernel) rfl
theorem q_627 : Cond.instanceMethod ⟨"PurseCardModel", "sixFrom", "(I)J"⟩ ∈ mWS := mw3 147 (by decide +kernel) rfl
theorem q_628 : Cond.code ⟨"PurseCardModel", "sixFrom", "(I)J"⟩ prog_8_method_25_code (5 : Nat) (Option.some FieldType.long) ∈ mWS := mw3 148 (by decide +kernel) rfl
theorem q_629 : Cond.constantLong "PurseCardModel" (156 : Nat) (256 : Int64) ∈ mWS := mw3 149 (by decide +kernel) rfl
theorem q_630 : Cond.methodLink "PurseCardModel" (136 : Nat) ⟨"PurseCardModel", "readRecord", "()I"⟩ ∈ mWS := mw3 150 (by decide +kernel) rfl
theorem q_632 : Cond.instanceMethod ⟨"PurseCardModel", "readRecord", "()I"⟩ ∈ mWS := mw3 152 (by decide +kernel) rfl
theorem q_633 : Cond.code ⟨"PurseCardModel", "readRecord", "()I"⟩ prog_8_method_27_code (5 : Nat) (Option.some FieldType.int) ∈ mWS := mw3 153 (by decide +kernel) rfl
theorem q_634 : Cond.methodLink "PurseCardModel" (139 : Nat) ⟨"PurseCardModel", "prove", "()I"⟩ ∈ mWS := mw3 154 (by decide +kernel) rfl
theorem q_636 : Cond.instanceMethod ⟨"PurseCardModel", "prove", "()I"⟩ ∈ mWS := mw3 156 (by decide +kernel) rfl
theorem q_637 : Cond.code ⟨"PurseCardModel", "prove", "()I"⟩ prog_8_method_29_code (4 : Nat) (Option.some FieldType.int) ∈ mWS := mw3 157 (by decide +kernel) rfl
theorem q_638 : Cond.methodLink "PurseCardModel" (170 : Nat) ⟨"PurseCardModel", "half", "(I)I"⟩ ∈ mWS := mw3 158 (by decide +kernel) rfl
theorem q_640 : Cond.instanceMethod ⟨"PurseCardModel", "half", "(I)I"⟩ ∈ mWS := mw3 160 (by decide +kernel) rfl
theorem q_641 : Cond.code ⟨"PurseCardModel", "half", "(I)I"⟩ prog_8_method_28_code (3 : Nat) (Option.some FieldType.int) ∈ mWS := mw3 161 (by decide +kernel) rfl
theorem q_642 : Cond.methodLink "PurseCardModel" (142 : Nat) ⟨"PurseCardModel", "tell", "()I"⟩ ∈ mWS := mw3 162 (by decide +kernel) rfl
theorem q_644 : Cond.instanceMethod ⟨"PurseCardModel", "tell", "()I"⟩ ∈ mWS := mw3 164 (by decide +kernel) rfl
theorem q_645 : Cond.code ⟨"PurseCardModel", "tell", "()I"⟩ prog_8_method_30_code (2 : Nat) (Option.some FieldType.int) ∈ mWS := mw3 165 (by decide +kernel) rfl
theorem q_646 : Cond.methodLink "PurseCardModel" (145 : Nat) ⟨"PurseCardModel", "give", "()I"⟩ ∈ mWS := mw3 166 (by decide +kernel) rfl
theorem q_648 : Cond.instanceMethod ⟨"PurseCardModel", "give", "()I"⟩ ∈ mWS := mw3 168 (by decide +kernel) rfl
theorem q_649 : Cond.code ⟨"PurseCardModel", "give", "()I"⟩ prog_8_method_32_code (4 : Nat) (Option.some FieldType.int) ∈ mWS := mw3 169 (by decide +kernel) rfl
theorem q_650 : Cond.methodLink "PurseCardModel" (176 : Nat) ⟨"PurseCardModel", "given", "()I"⟩ ∈ mWS := mw3 170 (by decide +kernel) rfl
theorem q_652 : Cond.instanceMethod ⟨"PurseCardModel", "given", "()I"⟩ ∈ mWS := mw3 172 (by decide +kernel) rfl
theorem q_653 : Cond.code ⟨"PurseCardModel", "given", "()I"⟩ prog_8_method_31_code (2 : Nat) (Option.some FieldType.int) ∈ mWS := mw3 173 (by decide +kernel) rfl
theorem q_654 : Cond.methodLink "PurseCardModel" (179 : Nat) ⟨"PurseCardModel", "sealPayment", "(JIIIZ)V"⟩ ∈ mWS := mw3 174 (by decide +kernel) rfl
theorem q_656 : Cond.instanceMethod ⟨"PurseCardModel", "sealPayment", "(JIIIZ)V"⟩ ∈ mWS := mw3 176 (by decide +kernel) rfl
theorem q_657 : Cond.code ⟨"PurseCardModel", "sealPayment", "(JIIIZ)V"⟩ prog_8_method_11_code (8 : Nat) (Option.none : Option FieldType) ∈ mWS := mw3 177 (by decide +kernel) rfl
theorem q_658 : Cond.constantLong "PurseCardModel" (92 : Nat) (255 : Int64) ∈ mWS := mw3 178 (by decide +kernel) rfl
theorem q_659 : Cond.methodLink "PurseCardModel" (94 : Nat) ⟨"PurseCardModel", "makeSeal", "(I)V"⟩ ∈ mWS := mw3 179 (by decide +kernel) rfl
theorem q_661 : Cond.instanceMethod ⟨"PurseCardModel", "makeSeal", "(I)V"⟩ ∈ mWS := mw3 181 (by decide +kernel) rfl
theorem q_662 : Cond.code ⟨"PurseCardModel", "makeSeal", "(I)V"⟩ prog_8_method_10_code (8 : Nat) (Option.none : Option FieldType) ∈ mWS := mw3 182 (by decide +kernel) rfl
theorem q_663 : Cond.methodLink "PurseCardModel" (86 : Nat) ⟨"PurseCardModel", "encipher", "()V"⟩ ∈ mWS := mw3 183 (by decide +kernel) rfl
theorem q_665 : Cond.instanceMethod ⟨"PurseCardModel", "encipher", "()V"⟩ ∈ mWS := mw3 185 (by decide +kernel) rfl
theorem q_666 : Cond.code ⟨"PurseCardModel", "encipher", "()V"⟩ prog_8_method_8_code (5 : Nat) (Option.none : Option FieldType) ∈ mWS := mw3 186 (by decide +kernel) rfl
theorem q_667 : Cond.methodLink "PurseCardModel" (79 : Nat) ⟨"PurseCardModel", "combineKey", "(I)V"⟩ ∈ mWS := mw3 187 (by decide +kernel) rfl
theorem q_669 : Cond.instanceMethod ⟨"PurseCardModel", "combineKey", "(I)V"⟩ ∈ mWS := mw3 189 (by decide +kernel) rfl
theorem q_670 : Cond.code ⟨"PurseCardModel", "combineKey", "(I)V"⟩ prog_8_method_6_code (3 : Nat) (Option.none : Option FieldType) ∈ mWS := mw3 190 (by decide +kernel) rfl
theorem q_671 : Cond.methodLink "PurseCardModel" (83 : Nat) ⟨"PurseCardModel", "mixRows", "()V"⟩ ∈ mWS := mw3 191 (by decide +kernel) rfl
theorem q_673 : Cond.instanceMethod ⟨"PurseCardModel", "mixRows", "()V"⟩ ∈ mWS := mw3 193 (by decide +kernel) rfl
theorem q_674 : Cond.code ⟨"PurseCardModel", "mixRows", "()V"⟩ prog_8_method_7_code (3 : Nat) (Option.none : Option FieldType) ∈ mWS := mw3 194 (by decide +kernel) rfl
theorem q_675 : Cond.methodLink "PurseCardModel" (89 : Nat) ⟨"PurseCardModel", "doubleMask", "()V"⟩ ∈ mWS := mw3 195 (by decide +kernel) rfl
theorem q_677 : Cond.instanceMethod ⟨"PurseCardModel", "doubleMask", "()V"⟩ ∈ mWS := mw3 197 (by decide +kernel) rfl
theorem q_678 : Cond.code ⟨"PurseCardModel", "doubleMask", "()V"⟩ prog_8_method_9_code (4 : Nat) (Option.none : Option FieldType) ∈ mWS := mw3 198 (by decide +kernel) rfl
theorem q_679 : Cond.methodLink "PurseCardLaw" (47 : Nat) ⟨"PurseCardModel", "find", "(I)I"⟩ ∈ mWS := mw3 199 (by decide +kernel) rfl
theorem q_680 : Cond.instanceMethod ⟨"PurseCardModel", "find", "(I)I"⟩ ∈ mWS := mw3 200 (by decide +kernel) rfl
theorem q_681 : Cond.selects "PurseCardModel" ⟨"PurseCardModel", "find", "(I)I"⟩ ⟨"PurseCardModel", "find", "(I)I"⟩ ∈ mWS := mw3 201 (by decide +kernel) rfl
theorem q_682 : Cond.code ⟨"PurseCardModel", "find", "(I)I"⟩ prog_8_method_33_code (9 : Nat) (Option.some FieldType.int) ∈ mWS := mw3 202 (by decide +kernel) rfl
theorem q_683 : Cond.methodLink "PurseCardLaw" (51 : Nat) ⟨"PurseCardModel", "keep", "(I)I"⟩ ∈ mWS := mw3 203 (by decide +kernel) rfl
theorem q_684 : Cond.instanceMethod ⟨"PurseCardModel", "keep", "(I)I"⟩ ∈ mWS := mw3 204 (by decide +kernel) rfl
theorem q_685 : Cond.selects "PurseCardModel" ⟨"PurseCardModel", "keep", "(I)I"⟩ ⟨"PurseCardModel", "keep", "(I)I"⟩ ∈ mWS := mw3 205 (by decide +kernel) rfl
theorem q_686 : Cond.code ⟨"PurseCardModel", "keep", "(I)I"⟩ prog_8_method_34_code (5 : Nat) (Option.some FieldType.int) ∈ mWS := mw3 206 (by decide +kernel) rfl
theorem q_687 : Cond.methodLink "PurseCardLaw" (58 : Nat) ⟨"PurseCardModel", "key", "(JJ)V"⟩ ∈ mWS := mw3 207 (by decide +kernel) rfl
theorem q_688 : Cond.instanceMethod ⟨"PurseCardModel", "key", "(JJ)V"⟩ ∈ mWS := mw3 208 (by decide +kernel) rfl
theorem q_689 : Cond.selects "PurseCardModel" ⟨"PurseCardModel", "key", "(JJ)V"⟩ ⟨"PurseCardModel", "key", "(JJ)V"⟩ ∈ mWS := mw3 209 (by decide +kernel) rfl
theorem q_690 : Cond.code ⟨"PurseCardModel", "key", "(JJ)V"⟩ prog_8_method_35_code (6 : Nat) (Option.none : Option FieldType) ∈ mWS := mw3 210 (by decide +kernel) rfl
theorem q_691 : Cond.methodLink "PurseCardLaw" (62 : Nat) ⟨"PurseCardModel", "code", "(I)Z"⟩ ∈ mWS := mw3 211 (by decide +kernel) rfl
theorem q_692 : Cond.instanceMethod ⟨"PurseCardModel", "code", "(I)Z"⟩ ∈ mWS := mw3 212 (by decide +kernel) rfl
theorem q_693 : Cond.selects "PurseCardModel" ⟨"PurseCardModel", "code", "(I)Z"⟩ ⟨"PurseCardModel", "code", "(I)Z"⟩ ∈ mWS := mw3 213 (by decide +kernel) rfl
theorem q_694 : Cond.code ⟨"PurseCardModel", "code", "(I)Z"⟩ prog_8_method_36_code (2 : Nat) (Option.some FieldType.boolean) ∈ mWS := mw3 214 (by decide +kernel) rfl
theorem q_695 : Cond.methodLink "PurseCardLaw" (66 : Nat) ⟨"PurseCardModel", "advance", "(I)Z"⟩ ∈ mWS := mw3 215 (by decide +kernel) rfl
theorem q_696 : Cond.instanceMethod ⟨"PurseCardModel", "advance", "(I)Z"⟩ ∈ mWS := mw3 216 (by decide +kernel) rfl
theorem q_697 : Cond.selects "PurseCardModel" ⟨"PurseCardModel", "advance", "(I)Z"⟩ ⟨"PurseCardModel", "advance", "(I)Z"⟩ ∈ mWS := mw3 217 (by decide +kernel) rfl
theorem q_698 : Cond.code ⟨"PurseCardModel", "advance", "(I)Z"⟩ prog_8_method_37_code (2 : Nat) (Option.some FieldType.boolean) ∈ mWS := mw3 218 (by decide +kernel) rfl
theorem q_699 : Cond.methodLink "PurseCardLaw" (70 : Nat) ⟨"PurseCardModel", "seal", "(I)I"⟩ ∈ mWS := mw3 219 (by decide +kernel) rfl
theorem q_700 : Cond.instanceMethod ⟨"PurseCardModel", "seal", "(I)I"⟩ ∈ mWS := mw3 220 (by decide +kernel) rfl
theorem q_701 : Cond.selects "PurseCardModel" ⟨"PurseCardModel", "seal", "(I)I"⟩ ⟨"PurseCardModel", "seal", "(I)I"⟩ ∈ mWS := mw3 221 (by decide +kernel) rfl
theorem q_702 : Cond.code ⟨"PurseCardModel", "seal", "(I)I"⟩ prog_8_method_38_code (3 : Nat) (Option.some FieldType.int) ∈ mWS := mw3 222 (by decide +kernel) rfl
theorem q_703 : Cond.methodLink "PurseCardLaw" (75 : Nat) ⟨"PurseCardModel", "genuine", "(JIZ)Z"⟩ ∈ mWS := mw3 223 (by decide +kernel) rfl
theorem q_704 : Cond.instanceMethod ⟨"PurseCardModel", "genuine", "(JIZ)Z"⟩ ∈ mWS := mw3 224 (by decide +kernel) rfl
theorem q_705 : Cond.selects "PurseCardModel" ⟨"PurseCardModel", "genuine", "(JIZ)Z"⟩ ⟨"PurseCardModel", "genuine", "(JIZ)Z"⟩ ∈ mWS := mw3 225 (by decide +kernel) rfl
theorem q_706 : Cond.code ⟨"PurseCardModel", "genuine", "(JIZ)Z"⟩ prog_8_method_41_code (10 : Nat) (Option.some FieldType.boolean) ∈ mWS := mw3 226 (by decide +kernel) rfl
theorem q_707 : Cond.constant "PurseCardModel" (188 : Nat) (40743 : Int32) ∈ mWS := mw3 227 (by decide +kernel) rfl
theorem q_708 : Cond.methodLink "PurseCardModel" (189 : Nat) ⟨"PurseCardModel", "bytesOf", "(II)I"⟩ ∈ mWS := mw3 228 (by decide +kernel) rfl
theorem q_710 : Cond.instanceMethod ⟨"PurseCardModel", "bytesOf", "(II)I"⟩ ∈ mWS := mw3 230 (by decide +kernel) rfl
theorem q_711 : Cond.code ⟨"PurseCardModel", "bytesOf", "(II)I"⟩ prog_8_method_40_code (4 : Nat) (Option.some FieldType.int) ∈ mWS := mw3 231 (by decide +kernel) rfl
theorem q_712 : Cond.methodLink "PurseCardModel" (185 : Nat) ⟨"PurseCardModel", "find", "(I)I"⟩ ∈ mWS := mw3 232 (by decide +kernel) rfl
theorem q_713 : Cond.constant "PurseCardModel" (192 : Nat) (40758 : Int32) ∈ mWS := mw3 233 (by decide +kernel) rfl
theorem q_714 : Cond.constant "PurseCardModel" (193 : Nat) (40742 : Int32) ∈ mWS := mw3 234 (by decide +kernel) rfl
theorem q_715 : Cond.methodLink "PurseCardModel" (194 : Nat) ⟨"PurseCardModel", "isAmount", "(J)Z"⟩ ∈ mWS := mw3 235 (by decide +kernel) rfl
theorem q_716 : Cond.static ⟨"PurseCardModel", "isAmount", "(J)Z"⟩ ∈ mWS := mw3 236 (by decide +kernel) rfl
theorem q_717 : Cond.code ⟨"PurseCardModel", "isAmount", "(J)Z"⟩ prog_8_method_39_code (2 : Nat) (Option.some FieldType.boolean) ∈ mWS := mw3 237 (by decide +kernel) rfl
theorem q_718 : Cond.constantLong "PurseCardModel" (183 : Nat) (281474976710655 : Int64) ∈ mWS := mw3 238 (by decide +kernel) rfl
theorem q_719 : Cond.methodLink "PurseCardLaw" (80 : Nat) ⟨"PurseCardModel", "pay", "(JJIIZ)I"⟩ ∈ mWS := mw3 239 (by decide +kernel) rfl
theorem q_720 : Cond.instanceMethod ⟨"PurseCardModel", "pay", "(JJIIZ)I"⟩ ∈ mWS := mw4 0 (by decide +kernel) rfl
theorem q_721 : Cond.selects "PurseCardModel" ⟨"PurseCardModel", "pay", "(JJIIZ)I"⟩ ⟨"PurseCardModel", "pay", "(JJIIZ)I"⟩ ∈ mWS := mw4 1 (by decide +kernel) rfl
theorem q_722 : Cond.code ⟨"PurseCardModel", "pay", "(JJIIZ)I"⟩ prog_8_method_51_code (12 : Nat) (Option.some FieldType.int) ∈ mWS := mw4 2 (by decide +kernel) rfl
theorem q_723 : Cond.methodLink "PurseCardModel" (212 : Nat) ⟨"PurseCardModel", "sendSelect", "()I"⟩ ∈ mWS := mw4 3 (by decide +kernel) rfl
theorem q_725 : Cond.instanceMethod ⟨"PurseCardModel", "sendSelect", "()I"⟩ ∈ mWS := mw4 5 (by decide +kernel) rfl
theorem q_726 : Cond.code ⟨"PurseCardModel", "sendSelect", "()I"⟩ prog_8_method_46_code (2 : Nat) (Option.some FieldType.int) ∈ mWS := mw4 6 (by decide +kernel) rfl
theorem q_727 : Cond.methodLink "PurseCardModel" (201 : Nat) ⟨"PurseCardModel", "begin", "(IIII)V"⟩ ∈ mWS := mw4 7 (by decide +kernel) rfl
theorem q_729 : Cond.instanceMethod ⟨"PurseCardModel", "begin", "(IIII)V"⟩ ∈ mWS := mw4 9 (by decide +kernel) rfl
theorem q_730 : Cond.code ⟨"PurseCardModel", "begin", "(IIII)V"⟩ prog_8_method_43_code (5 : Nat) (Option.none : Option FieldType) ∈ mWS := mw4 10 (by decide +kernel) rfl
theorem q_731 : Cond.methodLink "PurseCardModel" (198 : Nat) ⟨"PurseCardModel", "type", "(I)V"⟩ ∈ mWS := mw4 11 (by decide +kernel) rfl
theorem q_733 : Cond.instanceMethod ⟨"PurseCardModel", "type", "(I)V"⟩ ∈ mWS := mw4 13 (by decide +kernel) rfl
theorem q_734 : Cond.code ⟨"PurseCardModel", "type", "(I)V"⟩ prog_8_method_42_code (2 : Nat) (Option.none : Option FieldType) ∈ mWS := mw4 14 (by decide +kernel) rfl
theorem q_735 : Cond.methodLink "PurseCardModel" (209 : Nat) ⟨"PurseCardModel", "send", "()I"⟩ ∈ mWS := mw4 15 (by decide +kernel) rfl
theorem q_736 : Cond.methodLink "PurseCardModel" (215 : Nat) ⟨"PurseCardModel", "sendReady", "(J)I"⟩ ∈ mWS := mw4 16 (by decide +kernel) rfl
theorem q_738 : Cond.instanceMethod ⟨"PurseCardModel", "sendReady", "(J)I"⟩ ∈ mWS := mw4 18 (by decide +kernel) rfl
theorem q_739 : Cond.code ⟨"PurseCardModel", "sendReady", "(J)I"⟩ prog_8_method_47_code (3 : Nat) (Option.some FieldType.int) ∈ mWS := mw4 19 (by decide +kernel) rfl
theorem q_740 : Cond.methodLink "PurseCardModel" (205 : Nat) ⟨"PurseCardModel", "typeSix", "(J)V"⟩ ∈ mWS := mw4 20 (by decide +kernel) rfl
theorem q_742 : Cond.instanceMethod ⟨"PurseCardModel", "typeSix", "(J)V"⟩ ∈ mWS := mw4 22 (by decide +kernel) rfl
theorem q_743 : Cond.code ⟨"PurseCardModel", "typeSix", "(J)V"⟩ prog_8_method_44_code (4 : Nat) (Option.none : Option FieldType) ∈ mWS := mw4 23 (by decide +kernel) rfl
theorem q_744 : Cond.methodLink "PurseCardModel" (219 : Nat) ⟨"PurseCardModel", "readAll", "()I"⟩ ∈ mWS := mw4 24 (by decide +kernel) rfl
theorem q_746 : Cond.instanceMethod ⟨"PurseCardModel", "readAll", "()I"⟩ ∈ mWS := mw4 26 (by decide +kernel) rfl
theorem q_747 : Cond.code ⟨"PurseCardModel", "readAll", "()I"⟩ prog_8_method_48_code (5 : Nat) (Option.some FieldType.int) ∈ mWS := mw4 27 (by decide +kernel) rfl
theorem q_748 : Cond.methodLink "PurseCardModel" (222 : Nat) ⟨"PurseCardModel", "sendProve", "(I)I"⟩ ∈ mWS := mw4 28 (by decide +kernel) rfl
theorem q_750 : Cond.instanceMethod ⟨"PurseCardModel", "sendProve", "(I)I"⟩ ∈ mWS := mw4 30 (by decide +kernel) rfl
theorem q_751 : Cond.code ⟨"PurseCardModel", "sendProve", "(I)I"⟩ prog_8_method_49_code (3 : Nat) (Option.some FieldType.int) ∈ mWS := mw4 31 (by decide +kernel) rfl
theorem q_752 : Cond.methodLink "PurseCardModel" (225 : Nat) ⟨"PurseCardModel", "sendSeal", "(IJII)I"⟩ ∈ mWS := mw4 32 (by decide +kernel) rfl
theorem q_754 : Cond.instanceMethod ⟨"PurseCardModel", "sendSeal", "(IJII)I"⟩ ∈ mWS := mw4 34 (by decide +kernel) rfl
theorem q_755 : Cond.code ⟨"PurseCardModel", "sendSeal", "(IJII)I"⟩ prog_8_method_45_code (7 : Nat) (Option.some FieldType.int) ∈ mWS := mw4 35 (by decide +kernel) rfl
theorem q_756 : Cond.methodLink "PurseCardModel" (229 : Nat) ⟨"PurseCardModel", "cryptogram", "()I"⟩ ∈ mWS := mw4 36 (by decide +kernel) rfl
theorem q_758 : Cond.instanceMethod ⟨"PurseCardModel", "cryptogram", "()I"⟩ ∈ mWS := mw4 38 (by decide +kernel) rfl
theorem q_759 : Cond.code ⟨"PurseCardModel", "cryptogram", "()I"⟩ prog_8_method_50_code (2 : Nat) (Option.some FieldType.int) ∈ mWS := mw4 39 (by decide +kernel) rfl
theorem q_760 : Cond.methodLink "PurseCardModel" (232 : Nat) ⟨"PurseCardModel", "genuine", "(JIZ)Z"⟩ ∈ mWS := mw4 40 (by decide +kernel) rfl
theorem q_761 : Cond.methodLink "PurseCardLaw" (84 : Nat) ⟨"PurseCardModel", "stage", "()I"⟩ ∈ mWS := mw4 41 (by decide +kernel) rfl
theorem q_762 : Cond.instanceMethod ⟨"PurseCardModel", "stage", "()I"⟩ ∈ mWS := mw4 42 (by decide +kernel) rfl
theorem q_763 : Cond.selects "PurseCardModel" ⟨"PurseCardModel", "stage", "()I"⟩ ⟨"PurseCardModel", "stage", "()I"⟩ ∈ mWS := mw4 43 (by decide +kernel) rfl
theorem q_764 : Cond.code ⟨"PurseCardModel", "stage", "()I"⟩ prog_8_method_52_code (1 : Nat) (Option.some FieldType.int) ∈ mWS := mw4 44 (by decide +kernel) rfl
theorem q_765 : Cond.methodLink "PurseCardLaw" (88 : Nat) ⟨"PurseCardModel", "counter", "()I"⟩ ∈ mWS := mw4 45 (by decide +kernel) rfl
theorem q_766 : Cond.instanceMethod ⟨"PurseCardModel", "counter", "()I"⟩ ∈ mWS := mw4 46 (by decide +kernel) rfl
theorem q_767 : Cond.selects "PurseCardModel" ⟨"PurseCardModel", "counter", "()I"⟩ ⟨"PurseCardModel", "counter", "()I"⟩ ∈ mWS := mw4 47 (by decide +kernel) rfl
theorem q_768 : Cond.code ⟨"PurseCardModel", "counter", "()I"⟩ prog_8_method_53_code (1 : Nat) (Option.some FieldType.int) ∈ mWS := mw4 48 (by decide +kernel) rfl
theorem q_769 : Cond.methodLink "PurseCardLaw" (92 : Nat) ⟨"PurseCardModel", "tries", "()I"⟩ ∈ mWS := mw4 49 (by decide +kernel) rfl
theorem q_770 : Cond.instanceMethod ⟨"PurseCardModel", "tries", "()I"⟩ ∈ mWS := mw4 50 (by decide +kernel) rfl
theorem q_771 : Cond.selects "PurseCardModel" ⟨"PurseCardModel", "tries", "()I"⟩ ⟨"PurseCardModel", "tries", "()I"⟩ ∈ mWS := mw4 51 (by decide +kernel) rfl
theorem q_772 : Cond.code ⟨"PurseCardModel", "tries", "()I"⟩ prog_8_method_54_code (1 : Nat) (Option.some FieldType.int) ∈ mWS := mw4 52 (by decide +kernel) rfl
theorem q_773 : Cond.constantLong "PurseCardLaw" (52 : Nat) (4294967295 : Int64) ∈ mWS := mw4 53 (by decide +kernel) rfl
def mWN : List Cond := [Cond.methodLinkNest "PurseCard" (26 : Nat) ⟨"PurseCard$TagSearch", "<init>", "()V"⟩ "PurseCard", Cond.methodLinkNest "PurseCard$Card" (22 : Nat) ⟨"PurseCard$Files", "<init>", "()V"⟩ "PurseCard", Cond.fieldLinkNest "PurseCard" (153 : Nat) "PurseCard$Card" "name" "LPurseCard$Row;" "PurseCard", Cond.fieldLinkNest "PurseCard" (61 : Nat) "PurseCard$Card" "files" "LPurseCard$Files;" "PurseCard", Cond.fieldLinkNest "PurseCard" (74 : Nat) "PurseCard$Card" "sealer" "LPurseCard$Sealer;" "PurseCard", Cond.fieldLinkNest "PurseCard" (84 : Nat) "PurseCard$Card" "code" "I" "PurseCard", Cond.fieldLinkNest "PurseCard" (91 : Nat) "PurseCard$Card" "counter" "I" "PurseCard", Cond.fieldLinkNest "PurseCard" (88 : Nat) "PurseCard$Card" "tries" "I" "PurseCard", Cond.fieldLinkNest "PurseCard" (144 : Nat) "PurseCard$Card" "stage" "I" "PurseCard"]
theorem q_34 : Cond.methodLinkNest "PurseCard" (26 : Nat) ⟨"PurseCard$TagSearch", "<init>", "()V"⟩ "PurseCard" ∈ mWN := List.mem_of_getElem? (i := 0) rfl
theorem q_52 : Cond.methodLinkNest "PurseCard$Card" (22 : Nat) ⟨"PurseCard$Files", "<init>", "()V"⟩ "PurseCard" ∈ mWN := List.mem_of_getElem? (i := 1) rfl
theorem q_141 : Cond.fieldLinkNest "PurseCard" (153 : Nat) "PurseCard$Card" "name" "LPurseCard$Row;" "PurseCard" ∈ mWN := List.mem_of_getElem? (i := 2) rfl
theorem q_143 : Cond.fieldLinkNest "PurseCard" (61 : Nat) "PurseCard$Card" "files" "LPurseCard$Files;" "PurseCard" ∈ mWN := List.mem_of_getElem? (i := 3) rfl
theorem q_145 : Cond.fieldLinkNest "PurseCard" (74 : Nat) "PurseCard$Card" "sealer" "LPurseCard$Sealer;" "PurseCard" ∈ mWN := List.mem_of_getElem? (i := 4) rfl
theorem q_147 : Cond.fieldLinkNest "PurseCard" (84 : Nat) "PurseCard$Card" "code" "I" "PurseCard" ∈ mWN := List.mem_of_getElem? (i := 5) rfl
theorem q_149 : Cond.fieldLinkNest "PurseCard" (91 : Nat) "PurseCard$Card" "counter" "I" "PurseCard" ∈ mWN := List.mem_of_getElem? (i := 6) rfl
theorem q_151 : Cond.fieldLinkNest "PurseCard" (88 : Nat) "PurseCard$Card" "tries" "I" "PurseCard" ∈ mWN := List.mem_of_getElem? (i := 7) rfl
theorem q_154 : Cond.fieldLinkNest "PurseCard" (144 : Nat) "PurseCard$Card" "stage" "I" "PurseCard" ∈ mWN := List.mem_of_getElem? (i := 8) rfl
/-- the nest words hold -/
def mNs (U : State) : Prop := ∀ w ∈ mWN, va_Nw w U
theorem mNs_warm {s U : State} (hW : s.WarmedH U.vm) (h : mNs s) : mNs U := by
  intro w hw
  have h1 := h w hw
  simp only [mWN, List.mem_cons, List.not_mem_nil, or_false] at hw
  rcases hw with rfl | rfl | rfl | rfl | rfl | rfl | rfl | rfl | rfl
  · exact va_Nw.warmM hW h1
  · exact va_Nw.warmM hW h1
  · exact va_Nw.warmF hW h1
  · exact va_Nw.warmF hW h1
  · exact va_Nw.warmF hW h1
  · exact va_Nw.warmF hW h1
  · exact va_Nw.warmF hW h1
  · exact va_Nw.warmF hW h1
  · exact va_Nw.warmF hW h1
theorem mNs_same {s U : State} (hv : s.vm = U.vm) (h : mNs s) : mNs U := by
  intro w hw
  have h1 := h w hw
  simp only [mWN, List.mem_cons, List.not_mem_nil, or_false] at hw
  rcases hw with rfl | rfl | rfl | rfl | rfl | rfl | rfl | rfl | rfl <;> exact va_Nw.same rfl hv h1
theorem mWN_in : ∀ w ∈ mWN, w ∈ lw_tbl := by
  intro w hw
  simp only [mWN, List.mem_cons, List.not_mem_nil, or_false] at hw
  rcases hw with rfl | rfl | rfl | rfl | rfl | rfl | rfl | rfl | rfl
  · exact List.mem_append_right _ (List.mem_of_getElem? (i := 34) (by decide +kernel))
  · exact List.mem_append_right _ (List.mem_of_getElem? (i := 52) (by decide +kernel))
  · exact List.mem_append_right _ (List.mem_of_getElem? (i := 141) (by decide +kernel))
  · exact List.mem_append_right _ (List.mem_of_getElem? (i := 143) (by decide +kernel))
  · exact List.mem_append_right _ (List.mem_of_getElem? (i := 145) (by decide +kernel))
  · exact List.mem_append_right _ (List.mem_of_getElem? (i := 147) (by decide +kernel))
  · exact List.mem_append_right _ (List.mem_of_getElem? (i := 149) (by decide +kernel))
  · exact List.mem_append_right _ (List.mem_of_getElem? (i := 151) (by decide +kernel))
  · exact List.mem_append_right _ (List.mem_of_getElem? (i := 154) (by decide +kernel))
theorem mWN_ot : ∀ w ∈ mWN, w.onTables = true := by
  intro w hw
  simp only [mWN, List.mem_cons, List.not_mem_nil, or_false] at hw
  rcases hw with rfl | rfl | rfl | rfl | rfl | rfl | rfl | rfl | rfl <;> rfl
theorem mws {w : Cond} (i : Nat) (h : (k2_sels lw_privs)[i]? = some w) (h2 : mOkW w = true) : w ∈ mWS := List.mem_filter.mpr ⟨List.mem_append_left _ (List.mem_of_getElem? h), h2⟩
theorem qs_Sea_growRoundKeys : Cond.selects "PurseCard$Sealer" ⟨"PurseCard$Sealer", "growRoundKeys", "()V"⟩ ⟨"PurseCard$Sealer", "growRoundKeys", "()V"⟩ ∈ mWS := mws 0 (by decide +kernel) rfl
theorem qs_Sea_encipher : Cond.selects "PurseCard$Sealer" ⟨"PurseCard$Sealer", "encipher", "()V"⟩ ⟨"PurseCard$Sealer", "encipher", "()V"⟩ ∈ mWS := mws 1 (by decide +kernel) rfl
theorem qs_Sea_combineRoundKey : Cond.selects "PurseCard$Sealer" ⟨"PurseCard$Sealer", "combineRoundKey", "(I)V"⟩ ⟨"PurseCard$Sealer", "combineRoundKey", "(I)V"⟩ ∈ mWS := mws 2 (by decide +kernel) rfl
theorem qs_Sea_substituteAndTurn : Cond.selects "PurseCard$Sealer" ⟨"PurseCard$Sealer", "substituteAndTurn", "()V"⟩ ⟨"PurseCard$Sealer", "substituteAndTurn", "()V"⟩ ∈ mWS := mws 3 (by decide +kernel) rfl
theorem qs_Sea_mixColumns : Cond.selects "PurseCard$Sealer" ⟨"PurseCard$Sealer", "mixColumns", "()V"⟩ ⟨"PurseCard$Sealer", "mixColumns", "()V"⟩ ∈ mWS := mws 4 (by decide +kernel) rfl
theorem qs_Crd_firstFault : Cond.selects "PurseCard$Card" ⟨"PurseCard$Card", "firstFault", "(LPurseCard$Row;)I"⟩ ⟨"PurseCard$Card", "firstFault", "(LPurseCard$Row;)I"⟩ ∈ mWS := mws 5 (by decide +kernel) rfl
theorem qs_Crd_fitsStage : Cond.selects "PurseCard$Card" ⟨"PurseCard$Card", "fitsStage", "(I)Z"⟩ ⟨"PurseCard$Card", "fitsStage", "(I)Z"⟩ ∈ mWS := mws 6 (by decide +kernel) rfl
theorem qs_Crd_takesData : Cond.selects "PurseCard$Card" ⟨"PurseCard$Card", "takesData", "(II)Z"⟩ ⟨"PurseCard$Card", "takesData", "(II)Z"⟩ ∈ mWS := mws 7 (by decide +kernel) rfl
theorem qs_Crd_select : Cond.selects "PurseCard$Card" ⟨"PurseCard$Card", "select", "(LPurseCard$Row;LPurseCard$Row;)I"⟩ ⟨"PurseCard$Card", "select", "(LPurseCard$Row;LPurseCard$Row;)I"⟩ ∈ mWS := mws 8 (by decide +kernel) rfl
theorem qs_Crd_ready : Cond.selects "PurseCard$Card" ⟨"PurseCard$Card", "ready", "(LPurseCard$Row;LPurseCard$Row;)I"⟩ ⟨"PurseCard$Card", "ready", "(LPurseCard$Row;LPurseCard$Row;)I"⟩ ∈ mWS := mws 9 (by decide +kernel) rfl
theorem qs_Crd_read : Cond.selects "PurseCard$Card" ⟨"PurseCard$Card", "read", "(LPurseCard$Row;LPurseCard$Row;)I"⟩ ⟨"PurseCard$Card", "read", "(LPurseCard$Row;LPurseCard$Row;)I"⟩ ∈ mWS := mws 10 (by decide +kernel) rfl
theorem qs_Crd_prove : Cond.selects "PurseCard$Card" ⟨"PurseCard$Card", "prove", "(LPurseCard$Row;)I"⟩ ⟨"PurseCard$Card", "prove", "(LPurseCard$Row;)I"⟩ ∈ mWS := mws 11 (by decide +kernel) rfl
theorem qs_Crd_tell : Cond.selects "PurseCard$Card" ⟨"PurseCard$Card", "tell", "(LPurseCard$Row;LPurseCard$Row;)I"⟩ ⟨"PurseCard$Card", "tell", "(LPurseCard$Row;LPurseCard$Row;)I"⟩ ∈ mWS := mws 12 (by decide +kernel) rfl
theorem qs_Crd_giveSeal : Cond.selects "PurseCard$Card" ⟨"PurseCard$Card", "giveSeal", "(LPurseCard$Row;LPurseCard$Row;)I"⟩ ⟨"PurseCard$Card", "giveSeal", "(LPurseCard$Row;LPurseCard$Row;)I"⟩ ∈ mWS := mws 13 (by decide +kernel) rfl
theorem qs_Crd_decide : Cond.selects "PurseCard$Card" ⟨"PurseCard$Card", "decide", "(IJJ)I"⟩ ⟨"PurseCard$Card", "decide", "(IJJ)I"⟩ ∈ mWS := mws 14 (by decide +kernel) rfl
theorem qs_Pur_placeOfSized : Cond.selects "PurseCard" ⟨"PurseCard", "placeOfSized", "(II)I"⟩ ⟨"PurseCard", "placeOfSized", "(II)I"⟩ ∈ mWS := mws 15 (by decide +kernel) rfl
theorem qs_Pur_openPayment : Cond.selects "PurseCard" ⟨"PurseCard", "openPayment", "(J)I"⟩ ⟨"PurseCard", "openPayment", "(J)I"⟩ ∈ mWS := mws 16 (by decide +kernel) rfl
theorem qs_Pur_typeHead : Cond.selects "PurseCard" ⟨"PurseCard", "typeHead", "(IIII)V"⟩ ⟨"PurseCard", "typeHead", "(IIII)V"⟩ ∈ mWS := mws 17 (by decide +kernel) rfl
theorem qs_Pur_readRecords : Cond.selects "PurseCard" ⟨"PurseCard", "readRecords", "()I"⟩ ⟨"PurseCard", "readRecords", "()I"⟩ ∈ mWS := mws 18 (by decide +kernel) rfl
theorem qs_Pur_provePin : Cond.selects "PurseCard" ⟨"PurseCard", "provePin", "(I)I"⟩ ⟨"PurseCard", "provePin", "(I)I"⟩ ∈ mWS := mws 19 (by decide +kernel) rfl
theorem qs_Pur_typeSeal : Cond.selects "PurseCard" ⟨"PurseCard", "typeSeal", "(IJII)V"⟩ ⟨"PurseCard", "typeSeal", "(IJII)V"⟩ ∈ mWS := mws 20 (by decide +kernel) rfl
theorem qs_Pur_givenByCard : Cond.selects "PurseCard" ⟨"PurseCard", "givenByCard", "()I"⟩ ⟨"PurseCard", "givenByCard", "()I"⟩ ∈ mWS := mws 21 (by decide +kernel) rfl
theorem qs_Mod_expand : Cond.selects "PurseCardModel" ⟨"PurseCardModel", "expand", "()V"⟩ ⟨"PurseCardModel", "expand", "()V"⟩ ∈ mWS := mws 22 (by decide +kernel) rfl
theorem qs_Mod_take : Cond.selects "PurseCardModel" ⟨"PurseCardModel", "take", "()I"⟩ ⟨"PurseCardModel", "take", "()I"⟩ ∈ mWS := mws 23 (by decide +kernel) rfl
theorem qs_Mod_command : Cond.selects "PurseCardModel" ⟨"PurseCardModel", "command", "()I"⟩ ⟨"PurseCardModel", "command", "()I"⟩ ∈ mWS := mws 24 (by decide +kernel) rfl
theorem qs_Mod_parametersFit : Cond.selects "PurseCardModel" ⟨"PurseCardModel", "parametersFit", "(I)Z"⟩ ⟨"PurseCardModel", "parametersFit", "(I)Z"⟩ ∈ mWS := mws 25 (by decide +kernel) rfl
theorem qs_Mod_stageFits : Cond.selects "PurseCardModel" ⟨"PurseCardModel", "stageFits", "(I)Z"⟩ ⟨"PurseCardModel", "stageFits", "(I)Z"⟩ ∈ mWS := mws 26 (by decide +kernel) rfl
theorem qs_Mod_lengthFits : Cond.selects "PurseCardModel" ⟨"PurseCardModel", "lengthFits", "(I)Z"⟩ ⟨"PurseCardModel", "lengthFits", "(I)Z"⟩ ∈ mWS := mws 27 (by decide +kernel) rfl
theorem qs_Mod_select : Cond.selects "PurseCardModel" ⟨"PurseCardModel", "select", "()I"⟩ ⟨"PurseCardModel", "select", "()I"⟩ ∈ mWS := mws 28 (by decide +kernel) rfl
theorem qs_Mod_say2 : Cond.selects "PurseCardModel" ⟨"PurseCardModel", "say2", "(II)V"⟩ ⟨"PurseCardModel", "say2", "(II)V"⟩ ∈ mWS := mws 29 (by decide +kernel) rfl
theorem qs_Mod_say : Cond.selects "PurseCardModel" ⟨"PurseCardModel", "say", "(I)V"⟩ ⟨"PurseCardModel", "say", "(I)V"⟩ ∈ mWS := mws 30 (by decide +kernel) rfl
theorem qs_Mod_ready : Cond.selects "PurseCardModel" ⟨"PurseCardModel", "ready", "()I"⟩ ⟨"PurseCardModel", "ready", "()I"⟩ ∈ mWS := mws 31 (by decide +kernel) rfl
theorem qs_Mod_sixFrom : Cond.selects "PurseCardModel" ⟨"PurseCardModel", "sixFrom", "(I)J"⟩ ⟨"PurseCardModel", "sixFrom", "(I)J"⟩ ∈ mWS := mws 32 (by decide +kernel) rfl
theorem qs_Mod_readRecord : Cond.selects "PurseCardModel" ⟨"PurseCardModel", "readRecord", "()I"⟩ ⟨"PurseCardModel", "readRecord", "()I"⟩ ∈ mWS := mws 33 (by decide +kernel) rfl
theorem qs_Mod_prove : Cond.selects "PurseCardModel" ⟨"PurseCardModel", "prove", "()I"⟩ ⟨"PurseCardModel", "prove", "()I"⟩ ∈ mWS := mws 34 (by decide +kernel) rfl
theorem qs_Mod_half : Cond.selects "PurseCardModel" ⟨"PurseCardModel", "half", "(I)I"⟩ ⟨"PurseCardModel", "half", "(I)I"⟩ ∈ mWS := mws 35 (by decide +kernel) rfl
theorem qs_Mod_tell : Cond.selects "PurseCardModel" ⟨"PurseCardModel", "tell", "()I"⟩ ⟨"PurseCardModel", "tell", "()I"⟩ ∈ mWS := mws 36 (by decide +kernel) rfl
theorem qs_Mod_give : Cond.selects "PurseCardModel" ⟨"PurseCardModel", "give", "()I"⟩ ⟨"PurseCardModel", "give", "()I"⟩ ∈ mWS := mws 37 (by decide +kernel) rfl
theorem qs_Mod_given : Cond.selects "PurseCardModel" ⟨"PurseCardModel", "given", "()I"⟩ ⟨"PurseCardModel", "given", "()I"⟩ ∈ mWS := mws 38 (by decide +kernel) rfl
theorem qs_Mod_sealPayment : Cond.selects "PurseCardModel" ⟨"PurseCardModel", "sealPayment", "(JIIIZ)V"⟩ ⟨"PurseCardModel", "sealPayment", "(JIIIZ)V"⟩ ∈ mWS := mws 39 (by decide +kernel) rfl
theorem qs_Mod_makeSeal : Cond.selects "PurseCardModel" ⟨"PurseCardModel", "makeSeal", "(I)V"⟩ ⟨"PurseCardModel", "makeSeal", "(I)V"⟩ ∈ mWS := mws 40 (by decide +kernel) rfl
theorem qs_Mod_encipher : Cond.selects "PurseCardModel" ⟨"PurseCardModel", "encipher", "()V"⟩ ⟨"PurseCardModel", "encipher", "()V"⟩ ∈ mWS := mws 41 (by decide +kernel) rfl
theorem qs_Mod_combineKey : Cond.selects "PurseCardModel" ⟨"PurseCardModel", "combineKey", "(I)V"⟩ ⟨"PurseCardModel", "combineKey", "(I)V"⟩ ∈ mWS := mws 42 (by decide +kernel) rfl
theorem qs_Mod_mixRows : Cond.selects "PurseCardModel" ⟨"PurseCardModel", "mixRows", "()V"⟩ ⟨"PurseCardModel", "mixRows", "()V"⟩ ∈ mWS := mws 43 (by decide +kernel) rfl
theorem qs_Mod_doubleMask : Cond.selects "PurseCardModel" ⟨"PurseCardModel", "doubleMask", "()V"⟩ ⟨"PurseCardModel", "doubleMask", "()V"⟩ ∈ mWS := mws 44 (by decide +kernel) rfl
theorem qs_Mod_bytesOf : Cond.selects "PurseCardModel" ⟨"PurseCardModel", "bytesOf", "(II)I"⟩ ⟨"PurseCardModel", "bytesOf", "(II)I"⟩ ∈ mWS := mws 45 (by decide +kernel) rfl
theorem qs_Mod_sendSelect : Cond.selects "PurseCardModel" ⟨"PurseCardModel", "sendSelect", "()I"⟩ ⟨"PurseCardModel", "sendSelect", "()I"⟩ ∈ mWS := mws 46 (by decide +kernel) rfl
theorem qs_Mod_begin : Cond.selects "PurseCardModel" ⟨"PurseCardModel", "begin", "(IIII)V"⟩ ⟨"PurseCardModel", "begin", "(IIII)V"⟩ ∈ mWS := mws 47 (by decide +kernel) rfl
theorem qs_Mod_type : Cond.selects "PurseCardModel" ⟨"PurseCardModel", "type", "(I)V"⟩ ⟨"PurseCardModel", "type", "(I)V"⟩ ∈ mWS := mws 48 (by decide +kernel) rfl
theorem qs_Mod_sendReady : Cond.selects "PurseCardModel" ⟨"PurseCardModel", "sendReady", "(J)I"⟩ ⟨"PurseCardModel", "sendReady", "(J)I"⟩ ∈ mWS := mws 49 (by decide +kernel) rfl
theorem qs_Mod_typeSix : Cond.selects "PurseCardModel" ⟨"PurseCardModel", "typeSix", "(J)V"⟩ ⟨"PurseCardModel", "typeSix", "(J)V"⟩ ∈ mWS := mws 50 (by decide +kernel) rfl
theorem qs_Mod_readAll : Cond.selects "PurseCardModel" ⟨"PurseCardModel", "readAll", "()I"⟩ ⟨"PurseCardModel", "readAll", "()I"⟩ ∈ mWS := mws 51 (by decide +kernel) rfl
theorem qs_Mod_sendProve : Cond.selects "PurseCardModel" ⟨"PurseCardModel", "sendProve", "(I)I"⟩ ⟨"PurseCardModel", "sendProve", "(I)I"⟩ ∈ mWS := mws 52 (by decide +kernel) rfl
theorem qs_Mod_sendSeal : Cond.selects "PurseCardModel" ⟨"PurseCardModel", "sendSeal", "(IJII)I"⟩ ⟨"PurseCardModel", "sendSeal", "(IJII)I"⟩ ∈ mWS := mws 53 (by decide +kernel) rfl
theorem qs_Mod_cryptogram : Cond.selects "PurseCardModel" ⟨"PurseCardModel", "cryptogram", "()I"⟩ ⟨"PurseCardModel", "cryptogram", "()I"⟩ ∈ mWS := mws 54 (by decide +kernel) rfl
/-- the static table S -/
def mSb : List Int32 := [99, 124, 119, 123, 242, 107, 111, 197, 48, 1, 103, 43, 254, 215, 171, 118, 202, 130, 201, 125, 250, 89, 71, 240, 173, 212, 162, 175, 156, 164, 114, 192, 183, 253, 147, 38, 54, 63, 247, 204, 52, 165, 229, 241, 113, 216, 49, 21, 4, 199, 35, 195, 24, 150, 5, 154, 7, 18, 128, 226, 235, 39, 178, 117, 9, 131, 44, 26, 27, 110, 90, 160, 82, 59, 214, 179, 41, 227, 47, 132, 83, 209, 0, 237, 32, 252, 177, 91, 106, 203, 190, 57, 74, 76, 88, 207, 208, 239, 170, 251, 67, 77, 51, 133, 69, 249, 2, 127, 80, 60, 159, 168, 81, 163, 64, 143, 146, 157, 56, 245, 188, 182, 218, 33, 16, 255, 243, 210, 205, 12, 19, 236, 95, 151, 68, 23, 196, 167, 126, 61, 100, 93, 25, 115, 96, 129, 79, 220, 34, 42, 144, 136, 70, 238, 184, 20, 222, 94, 11, 219, 224, 50, 58, 10, 73, 6, 36, 92, 194, 211, 172, 98, 145, 149, 228, 121, 231, 200, 55, 109, 141, 213, 78, 169, 108, 86, 244, 234, 101, 122, 174, 8, 186, 120, 37, 46, 28, 166, 180, 198, 232, 221, 116, 31, 75, 189, 139, 138, 112, 62, 181, 102, 72, 3, 246, 14, 97, 53, 87, 185, 134, 193, 29, 158, 225, 248, 152, 17, 105, 217, 142, 148, 155, 30, 135, 233, 206, 85, 40, 223, 140, 161, 137, 13, 191, 230, 66, 104, 65, 153, 45, 15, 176, 84, 187, 22]
def mSf (j : Nat) : Int32 := mSb.getD j 0
/-- static tables: their class, field, length, contents -/
abbrev mStat : List (String × String × Nat × (Nat → Int32)) := [("PurseCard$Sealer", "S", 256, mSf)]
def mFd (own : String) (idx ci k : Nat) : Prop := ∃ q : vw_C, vwCl[ci]? = some q ∧ k < q.2.2 ∧ (q.2.1 k).1 = q.1 ∧ (Cond.fieldLink own idx q.1 (q.2.1 k).2.1 (q.2.1 k).2.2.1 ∈ mWS ∨ ∃ host, Cond.fieldLinkNest own idx q.1 (q.2.1 k).2.1 (q.2.1 k).2.2.1 host ∈ mWN)
/-- a field that is written: its type; final or not -/
def mFt (ci k : Nat) (ty : FieldType) (fin : Bool) : Prop := ∃ q : vw_C, vwCl[ci]? = some q ∧ parseFieldDescriptor (q.2.1 k).2.2.1 = some ty ∧ (q.2.1 k).2.2.2 = fin
/-- what every call needs of its callee -/
def mCw (J : mM) (n : Nat) : Prop := Cond.code J.1 J.2.1 J.2.2.1 J.2.2.2 ∈ mWS ∧ Cond.initialized J.1.cls ∈ mWS ∧ (J.1.cls ≠ "java/lang/invoke/MethodHandle" ∧ J.1.cls ≠ "java/lang/invoke/VarHandle" ∧ (parseMethodDescriptor J.1.desc).map (fun d => d.parameters.length) = some n)
theorem fd_Row_15 : mFd "PurseCard$Row" 15 0 0 := ⟨_, rfl, by decide, rfl, Or.inl q_24⟩
theorem fd_Row_9 : mFd "PurseCard$Row" 9 0 1 := ⟨_, rfl, by decide, rfl, Or.inl q_25⟩
theorem fd_Tag_9 : mFd "PurseCard$TagSearch" 9 1 0 := ⟨_, rfl, by decide, rfl, Or.inl q_38⟩
theorem fd_Fil_9 : mFd "PurseCard$Files" 9 2 0 := ⟨_, rfl, by decide, rfl, Or.inl q_56⟩
theorem fd_Fil_15 : mFd "PurseCard$Files" 15 2 1 := ⟨_, rfl, by decide, rfl, Or.inl q_57⟩
theorem fd_Fil_18 : mFd "PurseCard$Files" 18 2 2 := ⟨_, rfl, by decide, rfl, Or.inl q_58⟩
theorem fd_Sea_11 : mFd "PurseCard$Sealer" 11 3 0 := ⟨_, rfl, by decide, rfl, Or.inl q_112⟩
theorem fd_Sea_15 : mFd "PurseCard$Sealer" 15 3 1 := ⟨_, rfl, by decide, rfl, Or.inl q_113⟩
theorem fd_Sea_18 : mFd "PurseCard$Sealer" 18 3 2 := ⟨_, rfl, by decide, rfl, Or.inl q_114⟩
theorem fd_Sea_21 : mFd "PurseCard$Sealer" 21 3 3 := ⟨_, rfl, by decide, rfl, Or.inl q_115⟩
theorem fd_Sea_24 : mFd "PurseCard$Sealer" 24 3 4 := ⟨_, rfl, by decide, rfl, Or.inl q_116⟩
theorem fd_Sea_32 : mFd "PurseCard$Sealer" 32 3 5 := ⟨_, rfl, by decide, rfl, Or.inl q_117⟩
theorem fd_Crd_14 : mFd "PurseCard$Card" 14 4 0 := ⟨_, rfl, by decide, rfl, Or.inl q_140⟩
theorem fd_Pur_153 : mFd "PurseCard" 153 4 0 := ⟨_, rfl, by decide, rfl, Or.inr ⟨_, q_141⟩⟩
theorem fd_Crd_23 : mFd "PurseCard$Card" 23 4 1 := ⟨_, rfl, by decide, rfl, Or.inl q_142⟩
theorem fd_Pur_61 : mFd "PurseCard" 61 4 1 := ⟨_, rfl, by decide, rfl, Or.inr ⟨_, q_143⟩⟩
theorem fd_Crd_30 : mFd "PurseCard$Card" 30 4 2 := ⟨_, rfl, by decide, rfl, Or.inl q_144⟩
theorem fd_Pur_74 : mFd "PurseCard" 74 4 2 := ⟨_, rfl, by decide, rfl, Or.inr ⟨_, q_145⟩⟩
theorem fd_Crd_34 : mFd "PurseCard$Card" 34 4 3 := ⟨_, rfl, by decide, rfl, Or.inl q_146⟩
theorem fd_Pur_84 : mFd "PurseCard" 84 4 3 := ⟨_, rfl, by decide, rfl, Or.inr ⟨_, q_147⟩⟩
theorem fd_Crd_38 : mFd "PurseCard$Card" 38 4 4 := ⟨_, rfl, by decide, rfl, Or.inl q_148⟩
theorem fd_Pur_91 : mFd "PurseCard" 91 4 4 := ⟨_, rfl, by decide, rfl, Or.inr ⟨_, q_149⟩⟩
theorem fd_Crd_41 : mFd "PurseCard$Card" 41 4 5 := ⟨_, rfl, by decide, rfl, Or.inl q_150⟩
theorem fd_Pur_88 : mFd "PurseCard" 88 4 5 := ⟨_, rfl, by decide, rfl, Or.inr ⟨_, q_151⟩⟩
theorem fd_Crd_44 : mFd "PurseCard$Card" 44 4 6 := ⟨_, rfl, by decide, rfl, Or.inl q_152⟩
theorem fd_Crd_47 : mFd "PurseCard$Card" 47 4 7 := ⟨_, rfl, by decide, rfl, Or.inl q_153⟩
theorem fd_Pur_144 : mFd "PurseCard" 144 4 7 := ⟨_, rfl, by decide, rfl, Or.inr ⟨_, q_154⟩⟩
theorem fd_Crd_50 : mFd "PurseCard$Card" 50 4 8 := ⟨_, rfl, by decide, rfl, Or.inl q_155⟩
theorem fd_Crd_54 : mFd "PurseCard$Card" 54 4 9 := ⟨_, rfl, by decide, rfl, Or.inl q_156⟩
theorem fd_Pur_14 : mFd "PurseCard" 14 5 0 := ⟨_, rfl, by decide, rfl, Or.inl q_178⟩
theorem fd_Pur_18 : mFd "PurseCard" 18 5 1 := ⟨_, rfl, by decide, rfl, Or.inl q_179⟩
theorem fd_Pur_21 : mFd "PurseCard" 21 5 2 := ⟨_, rfl, by decide, rfl, Or.inl q_180⟩
theorem fd_Pur_27 : mFd "PurseCard" 27 5 3 := ⟨_, rfl, by decide, rfl, Or.inl q_181⟩
theorem fd_Pur_34 : mFd "PurseCard" 34 5 4 := ⟨_, rfl, by decide, rfl, Or.inl q_182⟩
theorem fd_Mod_7 : mFd "PurseCardModel" 7 6 0 := ⟨_, rfl, by decide, rfl, Or.inl q_488⟩
theorem fd_Mod_13 : mFd "PurseCardModel" 13 6 1 := ⟨_, rfl, by decide, rfl, Or.inl q_489⟩
theorem fd_Mod_16 : mFd "PurseCardModel" 16 6 2 := ⟨_, rfl, by decide, rfl, Or.inl q_490⟩
theorem fd_Mod_19 : mFd "PurseCardModel" 19 6 3 := ⟨_, rfl, by decide, rfl, Or.inl q_491⟩
theorem fd_Mod_22 : mFd "PurseCardModel" 22 6 4 := ⟨_, rfl, by decide, rfl, Or.inl q_492⟩
theorem fd_Mod_25 : mFd "PurseCardModel" 25 6 5 := ⟨_, rfl, by decide, rfl, Or.inl q_493⟩
theorem fd_Mod_112 : mFd "PurseCardModel" 112 6 6 := ⟨_, rfl, by decide, rfl, Or.inl q_494⟩
theorem fd_Mod_28 : mFd "PurseCardModel" 28 6 7 := ⟨_, rfl, by decide, rfl, Or.inl q_495⟩
theorem fd_Mod_173 : mFd "PurseCardModel" 173 6 8 := ⟨_, rfl, by decide, rfl, Or.inl q_496⟩
theorem fd_Mod_109 : mFd "PurseCardModel" 109 6 9 := ⟨_, rfl, by decide, rfl, Or.inl q_497⟩
theorem fd_Mod_162 : mFd "PurseCardModel" 162 6 10 := ⟨_, rfl, by decide, rfl, Or.inl q_498⟩
theorem fd_Mod_166 : mFd "PurseCardModel" 166 6 11 := ⟨_, rfl, by decide, rfl, Or.inl q_499⟩
theorem fd_Mod_97 : mFd "PurseCardModel" 97 6 12 := ⟨_, rfl, by decide, rfl, Or.inl q_500⟩
theorem fd_Mod_32 : mFd "PurseCardModel" 32 6 13 := ⟨_, rfl, by decide, rfl, Or.inl q_501⟩
theorem fd_Mod_100 : mFd "PurseCardModel" 100 6 14 := ⟨_, rfl, by decide, rfl, Or.inl q_502⟩
theorem fd_Mod_35 : mFd "PurseCardModel" 35 6 15 := ⟨_, rfl, by decide, rfl, Or.inl q_503⟩
theorem fd_Mod_38 : mFd "PurseCardModel" 38 6 16 := ⟨_, rfl, by decide, rfl, Or.inl q_504⟩
theorem fd_Mod_41 : mFd "PurseCardModel" 41 6 17 := ⟨_, rfl, by decide, rfl, Or.inl q_505⟩
theorem fd_Mod_44 : mFd "PurseCardModel" 44 6 18 := ⟨_, rfl, by decide, rfl, Or.inl q_506⟩
theorem fd_Mod_47 : mFd "PurseCardModel" 47 6 19 := ⟨_, rfl, by decide, rfl, Or.inl q_507⟩
theorem fd_Mod_50 : mFd "PurseCardModel" 50 6 20 := ⟨_, rfl, by decide, rfl, Or.inl q_508⟩
theorem fd_Mod_53 : mFd "PurseCardModel" 53 6 21 := ⟨_, rfl, by decide, rfl, Or.inl q_509⟩
theorem fd_Mod_56 : mFd "PurseCardModel" 56 6 22 := ⟨_, rfl, by decide, rfl, Or.inl q_510⟩
theorem fd_Mod_59 : mFd "PurseCardModel" 59 6 23 := ⟨_, rfl, by decide, rfl, Or.inl q_511⟩
theorem fd_Mod_62 : mFd "PurseCardModel" 62 6 24 := ⟨_, rfl, by decide, rfl, Or.inl q_512⟩
theorem ft_Row_0 : mFt 0 0 (.array .int) true := ⟨_, rfl, by decide +kernel, rfl⟩
theorem ft_Row_1 : mFt 0 1 (.int) false := ⟨_, rfl, by decide +kernel, rfl⟩
theorem ft_Tag_0 : mFt 1 0 (.array .int) true := ⟨_, rfl, by decide +kernel, rfl⟩
theorem ft_Fil_0 : mFt 2 0 (.array .int) true := ⟨_, rfl, by decide +kernel, rfl⟩
theorem ft_Fil_1 : mFt 2 1 (.array .int) true := ⟨_, rfl, by decide +kernel, rfl⟩
theorem ft_Fil_2 : mFt 2 2 (.array .int) true := ⟨_, rfl, by decide +kernel, rfl⟩
theorem ft_Sea_0 : mFt 3 0 (.array .int) true := ⟨_, rfl, by decide +kernel, rfl⟩
theorem ft_Sea_1 : mFt 3 1 (.array .int) true := ⟨_, rfl, by decide +kernel, rfl⟩
theorem ft_Sea_2 : mFt 3 2 (.array .int) true := ⟨_, rfl, by decide +kernel, rfl⟩
theorem ft_Sea_3 : mFt 3 3 (.array .int) true := ⟨_, rfl, by decide +kernel, rfl⟩
theorem ft_Sea_4 : mFt 3 4 (.array .int) true := ⟨_, rfl, by decide +kernel, rfl⟩
theorem ft_Sea_5 : mFt 3 5 (.object "PurseCard$Row") true := ⟨_, rfl, by decide +kernel, rfl⟩
theorem ft_Crd_0 : mFt 4 0 (.object "PurseCard$Row") true := ⟨_, rfl, by decide +kernel, rfl⟩
theorem ft_Crd_1 : mFt 4 1 (.object "PurseCard$Files") true := ⟨_, rfl, by decide +kernel, rfl⟩
theorem ft_Crd_2 : mFt 4 2 (.object "PurseCard$Sealer") true := ⟨_, rfl, by decide +kernel, rfl⟩
theorem ft_Crd_3 : mFt 4 3 (.int) false := ⟨_, rfl, by decide +kernel, rfl⟩
theorem ft_Crd_4 : mFt 4 4 (.int) false := ⟨_, rfl, by decide +kernel, rfl⟩
theorem ft_Crd_5 : mFt 4 5 (.int) false := ⟨_, rfl, by decide +kernel, rfl⟩
theorem ft_Crd_6 : mFt 4 6 (.int) false := ⟨_, rfl, by decide +kernel, rfl⟩
theorem ft_Crd_7 : mFt 4 7 (.int) false := ⟨_, rfl, by decide +kernel, rfl⟩
theorem ft_Crd_8 : mFt 4 8 (.long) false := ⟨_, rfl, by decide +kernel, rfl⟩
theorem ft_Crd_9 : mFt 4 9 (.boolean) false := ⟨_, rfl, by decide +kernel, rfl⟩
theorem ft_Pur_0 : mFt 5 0 (.object "PurseCard$Row") true := ⟨_, rfl, by decide +kernel, rfl⟩
theorem ft_Pur_1 : mFt 5 1 (.object "PurseCard$Row") true := ⟨_, rfl, by decide +kernel, rfl⟩
theorem ft_Pur_2 : mFt 5 2 (.object "PurseCard$Row") true := ⟨_, rfl, by decide +kernel, rfl⟩
theorem ft_Pur_3 : mFt 5 3 (.object "PurseCard$TagSearch") true := ⟨_, rfl, by decide +kernel, rfl⟩
theorem ft_Pur_4 : mFt 5 4 (.object "PurseCard$Card") true := ⟨_, rfl, by decide +kernel, rfl⟩
theorem ft_Mod_0 : mFt 6 0 (.array .int) false := ⟨_, rfl, by decide +kernel, rfl⟩
theorem ft_Mod_1 : mFt 6 1 (.array .int) false := ⟨_, rfl, by decide +kernel, rfl⟩
theorem ft_Mod_2 : mFt 6 2 (.array .int) false := ⟨_, rfl, by decide +kernel, rfl⟩
theorem ft_Mod_3 : mFt 6 3 (.array .int) false := ⟨_, rfl, by decide +kernel, rfl⟩
theorem ft_Mod_4 : mFt 6 4 (.array .int) false := ⟨_, rfl, by decide +kernel, rfl⟩
theorem ft_Mod_5 : mFt 6 5 (.array .int) false := ⟨_, rfl, by decide +kernel, rfl⟩
theorem ft_Mod_6 : mFt 6 6 (.int) false := ⟨_, rfl, by decide +kernel, rfl⟩
theorem ft_Mod_7 : mFt 6 7 (.int) false := ⟨_, rfl, by decide +kernel, rfl⟩
theorem ft_Mod_8 : mFt 6 8 (.int) false := ⟨_, rfl, by decide +kernel, rfl⟩
theorem ft_Mod_9 : mFt 6 9 (.int) false := ⟨_, rfl, by decide +kernel, rfl⟩
theorem ft_Mod_10 : mFt 6 10 (.long) false := ⟨_, rfl, by decide +kernel, rfl⟩
theorem ft_Mod_11 : mFt 6 11 (.boolean) false := ⟨_, rfl, by decide +kernel, rfl⟩
theorem ft_Mod_12 : mFt 6 12 (.int) false := ⟨_, rfl, by decide +kernel, rfl⟩
theorem ft_Mod_13 : mFt 6 13 (.array .int) false := ⟨_, rfl, by decide +kernel, rfl⟩
theorem ft_Mod_14 : mFt 6 14 (.int) false := ⟨_, rfl, by decide +kernel, rfl⟩
theorem ft_Mod_15 : mFt 6 15 (.array .int) false := ⟨_, rfl, by decide +kernel, rfl⟩
theorem ft_Mod_16 : mFt 6 16 (.array .int) false := ⟨_, rfl, by decide +kernel, rfl⟩
theorem ft_Mod_17 : mFt 6 17 (.array .int) false := ⟨_, rfl, by decide +kernel, rfl⟩
theorem ft_Mod_18 : mFt 6 18 (.array .int) false := ⟨_, rfl, by decide +kernel, rfl⟩
theorem ft_Mod_19 : mFt 6 19 (.array .int) false := ⟨_, rfl, by decide +kernel, rfl⟩
theorem ft_Mod_20 : mFt 6 20 (.array .int) false := ⟨_, rfl, by decide +kernel, rfl⟩
theorem ft_Mod_21 : mFt 6 21 (.array .int) false := ⟨_, rfl, by decide +kernel, rfl⟩
theorem ft_Mod_22 : mFt 6 22 (.array .int) false := ⟨_, rfl, by decide +kernel, rfl⟩
theorem ft_Mod_23 : mFt 6 23 (.array .int) false := ⟨_, rfl, by decide +kernel, rfl⟩
theorem ft_Mod_24 : mFt 6 24 (.array .int) false := ⟨_, rfl, by decide +kernel, rfl⟩
theorem cw_Pur_init : mCw M_Pur_init 1 := ⟨q_14, q_1, by decide +kernel⟩
theorem cw_Row_init : mCw M_Row_init 1 := ⟨q_22, q_2, by decide +kernel⟩
theorem cw_Tag_init : mCw M_Tag_init 0 := ⟨q_36, q_3, by decide +kernel⟩
theorem cw_Crd_init : mCw M_Crd_init 1 := ⟨q_46, q_4, by decide +kernel⟩
theorem cw_Fil_init : mCw M_Fil_init 0 := ⟨q_54, q_5, by decide +kernel⟩
theorem cw_Sea_init : mCw M_Sea_init 0 := ⟨q_70, q_6, by decide +kernel⟩
theorem cw_Sea_takeKey : mCw M_Sea_takeKey 2 := ⟨q_77, q_6, by decide +kernel⟩
theorem cw_Sea_growRoundKeys : mCw M_Sea_growRoundKeys 0 := ⟨q_81, q_6, by decide +kernel⟩
theorem cw_Sea_twice : mCw M_Sea_twice 1 := ⟨q_86, q_6, by decide +kernel⟩
theorem cw_Arr_fill : mCw M_Arr_fill 2 := ⟨q_89, q_7, by decide +kernel⟩
theorem cw_Sea_encipher : mCw M_Sea_encipher 0 := ⟨q_93, q_6, by decide +kernel⟩
theorem cw_Sea_combineRoundKey : mCw M_Sea_combineRoundKey 1 := ⟨q_97, q_6, by decide +kernel⟩
theorem cw_Sea_substituteAndTurn : mCw M_Sea_substituteAndTurn 0 := ⟨q_101, q_6, by decide +kernel⟩
theorem cw_Sea_mixColumns : mCw M_Sea_mixColumns 0 := ⟨q_108, q_6, by decide +kernel⟩
theorem cw_Sea_doubleRow : mCw M_Sea_doubleRow 2 := ⟨q_111, q_6, by decide +kernel⟩
theorem cw_Row_addNumber : mCw M_Row_addNumber 2 := ⟨q_135, q_2, by decide +kernel⟩
theorem cw_Row_add : mCw M_Row_add 1 := ⟨q_139, q_2, by decide +kernel⟩
theorem cw_Pur_put : mCw M_Pur_put 1 := ⟨q_197, q_1, by decide +kernel⟩
theorem cw_Pur_wipe : mCw M_Pur_wipe 0 := ⟨q_202, q_1, by decide +kernel⟩
theorem cw_Row_size : mCw M_Row_size 0 := ⟨q_206, q_2, by decide +kernel⟩
theorem cw_Row_clear : mCw M_Row_clear 0 := ⟨q_210, q_2, by decide +kernel⟩
theorem cw_Pur_send : mCw M_Pur_send 0 := ⟨q_214, q_1, by decide +kernel⟩
theorem cw_Crd_obey : mCw M_Crd_obey 2 := ⟨q_218, q_4, by decide +kernel⟩
theorem cw_Crd_firstFault : mCw M_Crd_firstFault 1 := ⟨q_223, q_4, by decide +kernel⟩
theorem cw_Crd_isWellFormed : mCw M_Crd_isWellFormed 1 := ⟨q_226, q_4, by decide +kernel⟩
theorem cw_Row_at : mCw M_Row_at 1 := ⟨q_231, q_2, by decide +kernel⟩
theorem cw_Crd_instructionOf : mCw M_Crd_instructionOf 1 := ⟨q_234, q_4, by decide +kernel⟩
theorem cw_Row_numberAt : mCw M_Row_numberAt 2 := ⟨q_238, q_2, by decide +kernel⟩
theorem cw_Crd_isKnown : mCw M_Crd_isKnown 1 := ⟨q_243, q_4, by decide +kernel⟩
theorem cw_Crd_takesParameters : mCw M_Crd_takesParameters 3 := ⟨q_246, q_4, by decide +kernel⟩
theorem cw_Crd_fitsStage : mCw M_Crd_fitsStage 1 := ⟨q_250, q_4, by decide +kernel⟩
theorem cw_Crd_dataSize : mCw M_Crd_dataSize 1 := ⟨q_254, q_4, by decide +kernel⟩
theorem cw_Crd_takesData : mCw M_Crd_takesData 2 := ⟨q_258, q_4, by decide +kernel⟩
theorem cw_Crd_select : mCw M_Crd_select 2 := ⟨q_263, q_4, by decide +kernel⟩
theorem cw_Row_openTag : mCw M_Row_openTag 1 := ⟨q_267, q_2, by decide +kernel⟩
theorem cw_Row_addRow : mCw M_Row_addRow 1 := ⟨q_271, q_2, by decide +kernel⟩
theorem cw_Row_closeTag : mCw M_Row_closeTag 1 := ⟨q_275, q_2, by decide +kernel⟩
theorem cw_Row_addTagged : mCw M_Row_addTagged 3 := ⟨q_280, q_2, by decide +kernel⟩
theorem cw_Crd_ready : mCw M_Crd_ready 2 := ⟨q_289, q_4, by decide +kernel⟩
theorem cw_Fil_count : mCw M_Fil_count 1 := ⟨q_295, q_5, by decide +kernel⟩
theorem cw_Crd_read : mCw M_Crd_read 2 := ⟨q_300, q_4, by decide +kernel⟩
theorem cw_Fil_copy : mCw M_Fil_copy 3 := ⟨q_304, q_5, by decide +kernel⟩
theorem cw_Crd_prove : mCw M_Crd_prove 1 := ⟨q_310, q_4, by decide +kernel⟩
theorem cw_Crd_holdsDigits : mCw M_Crd_holdsDigits 1 := ⟨q_313, q_4, by decide +kernel⟩
theorem cw_Crd_digitsOf : mCw M_Crd_digitsOf 1 := ⟨q_316, q_4, by decide +kernel⟩
theorem cw_Crd_tell : mCw M_Crd_tell 2 := ⟨q_320, q_4, by decide +kernel⟩
theorem cw_Crd_giveSeal : mCw M_Crd_giveSeal 2 := ⟨q_326, q_4, by decide +kernel⟩
theorem cw_Crd_decide : mCw M_Crd_decide 3 := ⟨q_330, q_4, by decide +kernel⟩
theorem cw_Sea_payment : mCw M_Sea_payment 5 := ⟨q_335, q_6, by decide +kernel⟩
theorem cw_Sea_run : mCw M_Sea_run 1 := ⟨q_342, q_6, by decide +kernel⟩
theorem cw_Sea_byteAt : mCw M_Sea_byteAt 1 := ⟨q_350, q_6, by decide +kernel⟩
theorem cw_Pur_answered : mCw M_Pur_answered 0 := ⟨q_354, q_1, by decide +kernel⟩
theorem cw_Pur_answer : mCw M_Pur_answer 1 := ⟨q_358, q_1, by decide +kernel⟩
theorem cw_Pur_find : mCw M_Pur_find 1 := ⟨q_363, q_1, by decide +kernel⟩
theorem cw_Tag_placeOf : mCw M_Tag_placeOf 2 := ⟨q_367, q_3, by decide +kernel⟩
theorem cw_Pur_keep : mCw M_Pur_keep 1 := ⟨q_373, q_1, by decide +kernel⟩
theorem cw_Fil_store : mCw M_Fil_store 2 := ⟨q_377, q_5, by decide +kernel⟩
theorem cw_Pur_key : mCw M_Pur_key 2 := ⟨q_384, q_1, by decide +kernel⟩
theorem cw_Pur_code : mCw M_Pur_code 1 := ⟨q_389, q_1, by decide +kernel⟩
theorem cw_Pur_advance : mCw M_Pur_advance 1 := ⟨q_393, q_1, by decide +kernel⟩
theorem cw_Pur_seal : mCw M_Pur_seal 1 := ⟨q_398, q_1, by decide +kernel⟩
theorem cw_Pur_genuine : mCw M_Pur_genuine 3 := ⟨q_404, q_1, by decide +kernel⟩
theorem cw_Pur_isAmount : mCw M_Pur_isAmount 1 := ⟨q_407, q_1, by decide +kernel⟩
theorem cw_Pur_placeOfSized : mCw M_Pur_placeOfSized 2 := ⟨q_413, q_1, by decide +kernel⟩
theorem cw_Pur_pay : mCw M_Pur_pay 5 := ⟨q_421, q_1, by decide +kernel⟩
theorem cw_Pur_openPayment : mCw M_Pur_openPayment 1 := ⟨q_425, q_1, by decide +kernel⟩
theorem cw_Pur_typeHead : mCw M_Pur_typeHead 4 := ⟨q_429, q_1, by decide +kernel⟩
theorem cw_Pur_readRecords : mCw M_Pur_readRecords 0 := ⟨q_438, q_1, by decide +kernel⟩
theorem cw_Pur_provePin : mCw M_Pur_provePin 1 := ⟨q_442, q_1, by decide +kernel⟩
theorem cw_Pur_typeSeal : mCw M_Pur_typeSeal 4 := ⟨q_447, q_1, by decide +kernel⟩
theorem cw_Pur_givenByCard : mCw M_Pur_givenByCard 0 := ⟨q_452, q_1, by decide +kernel⟩
theorem cw_Pur_stage : mCw M_Pur_stage 0 := ⟨q_457, q_1, by decide +kernel⟩
theorem cw_Pur_counter : mCw M_Pur_counter 0 := ⟨q_461, q_1, by decide +kernel⟩
theorem cw_Pur_tries : mCw M_Pur_tries 0 := ⟨q_465, q_1, by decide +kernel⟩
theorem cw_Law_cell : mCw M_Law_cell 2 := ⟨q_468, q_0, by decide +kernel⟩
theorem cw_Mod_init : mCw M_Mod_init 1 := ⟨q_473, q_9, by decide +kernel⟩
theorem cw_Mod_substitute : mCw M_Mod_substitute 1 := ⟨q_477, q_9, by decide +kernel⟩
theorem cw_Mod_inverse : mCw M_Mod_inverse 1 := ⟨q_480, q_9, by decide +kernel⟩
theorem cw_Mod_times : mCw M_Mod_times 2 := ⟨q_483, q_9, by decide +kernel⟩
theorem cw_Mod_expand : mCw M_Mod_expand 0 := ⟨q_487, q_9, by decide +kernel⟩
theorem cw_Mod_put : mCw M_Mod_put 1 := ⟨q_567, q_9, by decide +kernel⟩
theorem cw_Mod_wipe : mCw M_Mod_wipe 0 := ⟨q_571, q_9, by decide +kernel⟩
theorem cw_Mod_answered : mCw M_Mod_answered 0 := ⟨q_575, q_9, by decide +kernel⟩
theorem cw_Mod_answer : mCw M_Mod_answer 1 := ⟨q_579, q_9, by decide +kernel⟩
theorem cw_Mod_send : mCw M_Mod_send 0 := ⟨q_583, q_9, by decide +kernel⟩
theorem cw_Mod_take : mCw M_Mod_take 0 := ⟨q_587, q_9, by decide +kernel⟩
theorem cw_Mod_command : mCw M_Mod_command 0 := ⟨q_591, q_9, by decide +kernel⟩
theorem cw_Mod_parametersFit : mCw M_Mod_parametersFit 1 := ⟨q_598, q_9, by decide +kernel⟩
theorem cw_Mod_stageFits : mCw M_Mod_stageFits 1 := ⟨q_602, q_9, by decide +kernel⟩
theorem cw_Mod_lengthFits : mCw M_Mod_lengthFits 1 := ⟨q_607, q_9, by decide +kernel⟩
theorem cw_Mod_select : mCw M_Mod_select 0 := ⟨q_611, q_9, by decide +kernel⟩
theorem cw_Mod_say2 : mCw M_Mod_say2 2 := ⟨q_615, q_9, by decide +kernel⟩
theorem cw_Mod_say : mCw M_Mod_say 1 := ⟨q_619, q_9, by decide +kernel⟩
theorem cw_Mod_ready : mCw M_Mod_ready 0 := ⟨q_624, q_9, by decide +kernel⟩
theorem cw_Mod_sixFrom : mCw M_Mod_sixFrom 1 := ⟨q_628, q_9, by decide +kernel⟩
theorem cw_Mod_readRecord : mCw M_Mod_readRecord 0 := ⟨q_633, q_9, by decide +kernel⟩
theorem cw_Mod_prove : mCw M_Mod_prove 0 := ⟨q_637, q_9, by decide +kernel⟩
theorem cw_Mod_half : mCw M_Mod_half 1 := ⟨q_641, q_9, by decide +kernel⟩
theorem cw_Mod_tell : mCw M_Mod_tell 0 := ⟨q_645, q_9, by decide +kernel⟩
theorem cw_Mod_give : mCw M_Mod_give 0 := ⟨q_649, q_9, by decide +kernel⟩
theorem cw_Mod_given : mCw M_Mod_given 0 := ⟨q_653, q_9, by decide +kernel⟩
theorem cw_Mod_sealPayment : mCw M_Mod_sealPayment 5 := ⟨q_657, q_9, by decide +kernel⟩
theorem cw_Mod_makeSeal : mCw M_Mod_makeSeal 1 := ⟨q_662, q_9, by decide +kernel⟩
theorem cw_Mod_encipher : mCw M_Mod_encipher 0 := ⟨q_666, q_9, by decide +kernel⟩
theorem cw_Mod_combineKey : mCw M_Mod_combineKey 1 := ⟨q_670, q_9, by decide +kernel⟩
theorem cw_Mod_mixRows : mCw M_Mod_mixRows 0 := ⟨q_674, q_9, by decide +kernel⟩
theorem cw_Mod_doubleMask : mCw M_Mod_doubleMask 0 := ⟨q_678, q_9, by decide +kernel⟩
theorem cw_Mod_find : mCw M_Mod_find 1 := ⟨q_682, q_9, by decide +kernel⟩
theorem cw_Mod_keep : mCw M_Mod_keep 1 := ⟨q_686, q_9, by decide +kernel⟩
theorem cw_Mod_key : mCw M_Mod_key 2 := ⟨q_690, q_9, by decide +kernel⟩
theorem cw_Mod_code : mCw M_Mod_code 1 := ⟨q_694, q_9, by decide +kernel⟩
theorem cw_Mod_advance : mCw M_Mod_advance 1 := ⟨q_698, q_9, by decide +kernel⟩
theorem cw_Mod_seal : mCw M_Mod_seal 1 := ⟨q_702, q_9, by decide +kernel⟩
theorem cw_Mod_genuine : mCw M_Mod_genuine 3 := ⟨q_706, q_9, by decide +kernel⟩
theorem cw_Mod_bytesOf : mCw M_Mod_bytesOf 2 := ⟨q_711, q_9, by decide +kernel⟩
theorem cw_Mod_isAmount : mCw M_Mod_isAmount 1 := ⟨q_717, q_9, by decide +kernel⟩
theorem cw_Mod_pay : mCw M_Mod_pay 5 := ⟨q_722, q_9, by decide +kernel⟩
theorem cw_Mod_sendSelect : mCw M_Mod_sendSelect 0 := ⟨q_726, q_9, by decide +kernel⟩
theorem cw_Mod_begin : mCw M_Mod_begin 4 := ⟨q_730, q_9, by decide +kernel⟩
theorem cw_Mod_type : mCw M_Mod_type 1 := ⟨q_734, q_9, by decide +kernel⟩
theorem cw_Mod_sendReady : mCw M_Mod_sendReady 1 := ⟨q_739, q_9, by decide +kernel⟩
theorem cw_Mod_typeSix : mCw M_Mod_typeSix 1 := ⟨q_743, q_9, by decide +kernel⟩
theorem cw_Mod_readAll : mCw M_Mod_readAll 0 := ⟨q_747, q_9, by decide +kernel⟩
theorem cw_Mod_sendProve : mCw M_Mod_sendProve 1 := ⟨q_751, q_9, by decide +kernel⟩
theorem cw_Mod_sendSeal : mCw M_Mod_sendSeal 4 := ⟨q_755, q_9, by decide +kernel⟩
theorem cw_Mod_cryptogram : mCw M_Mod_cryptogram 0 := ⟨q_759, q_9, by decide +kernel⟩
theorem cw_Mod_stage : mCw M_Mod_stage 0 := ⟨q_764, q_9, by decide +kernel⟩
theorem cw_Mod_counter : mCw M_Mod_counter 0 := ⟨q_768, q_9, by decide +kernel⟩
theorem cw_Mod_tries : mCw M_Mod_tries 0 := ⟨q_772, q_9, by decide +kernel⟩
theorem mCl_Row : ∀ w ∈ u_ws "PurseCard$Row" T_Row 2, w ∈ mWS := by
  intro w hw
  simp only [u_ws, List.range_succ_eq_map, List.range_zero, List.map_cons, List.map_nil, List.mem_cons, List.not_mem_nil, or_false, u_lay, T_Row, Nat.succ_eq_add_one] at hw
  rcases hw with rfl | rfl
  · exact q_26
  · exact q_28
theorem mCl_Tag : ∀ w ∈ u_ws "PurseCard$TagSearch" T_Tag 1, w ∈ mWS := by
  intro w hw
  simp only [u_ws, List.range_succ_eq_map, List.range_zero, List.map_cons, List.map_nil, List.mem_cons, List.not_mem_nil, or_false, u_lay, T_Tag, Nat.succ_eq_add_one] at hw
  rcases hw with rfl
  · exact q_39
theorem mCl_Fil : ∀ w ∈ u_ws "PurseCard$Files" T_Fil 3, w ∈ mWS := by
  intro w hw
  simp only [u_ws, List.range_succ_eq_map, List.range_zero, List.map_cons, List.map_nil, List.mem_cons, List.not_mem_nil, or_false, u_lay, T_Fil, Nat.succ_eq_add_one] at hw
  rcases hw with rfl | rfl | rfl
  · exact q_59
  · exact q_61
  · exact q_63
theorem mCl_Sea : ∀ w ∈ u_ws "PurseCard$Sealer" T_Sea 6, w ∈ mWS := by
  intro w hw
  simp only [u_ws, List.range_succ_eq_map, List.range_zero, List.map_cons, List.map_nil, List.mem_cons, List.not_mem_nil, or_false, u_lay, T_Sea, Nat.succ_eq_add_one] at hw
  rcases hw with rfl | rfl | rfl | rfl | rfl | rfl
  · exact q_118
  · exact q_120
  · exact q_122
  · exact q_124
  · exact q_126
  · exact q_128
theorem mCl_Crd : ∀ w ∈ u_ws "PurseCard$Card" T_Crd 10, w ∈ mWS := by
  intro w hw
  simp only [u_ws, List.range_succ_eq_map, List.range_zero, List.map_cons, List.map_nil, List.mem_cons, List.not_mem_nil, or_false, u_lay, T_Crd, Nat.succ_eq_add_one] at hw
  rcases hw with rfl | rfl | rfl | rfl | rfl | rfl | rfl | rfl | rfl | rfl
  · exact q_157
  · exact q_159
  · exact q_161
  · exact q_163
  · exact q_165
  · exact q_167
  · exact q_169
  · exact q_171
  · exact q_173
  · exact q_175
theorem mCl_Pur : ∀ w ∈ u_ws "PurseCard" T_Pur 5, w ∈ mWS := by
  intro w hw
  simp only [u_ws, List.range_succ_eq_map, List.range_zero, List.map_cons, List.map_nil, List.mem_cons, List.not_mem_nil, or_false, u_lay, T_Pur, Nat.succ_eq_add_one] at hw
  rcases hw with rfl | rfl | rfl | rfl | rfl
  · exact q_183
  · exact q_185
  · exact q_187
  · exact q_189
  · exact q_191
theorem mCl_Mod : ∀ w ∈ u_ws "PurseCardModel" T_Mod 25, w ∈ mWS := by
  intro w hw
  simp only [u_ws, List.range_succ_eq_map, List.range_zero, List.map_cons, List.map_nil, List.mem_cons, List.not_mem_nil, or_false, u_lay, T_Mod, Nat.succ_eq_add_one] at hw
  rcases hw with rfl | rfl | rfl | rfl | rfl | rfl | rfl | rfl | rfl | rfl | rfl | rfl | rfl | rfl | rfl | rfl | rfl | rfl | rfl | rfl | rfl | rfl | rfl | rfl | rfl
  · exact q_513
  · exact q_515
  · exact q_517
  · exact q_519
  · exact q_521
  · exact q_523
  · exact q_525
  · exact q_527
  · exact q_529
  · exact q_531
  · exact q_533
  · exact q_535
  · exact q_537
  · exact q_539
  · exact q_541
  · exact q_543
  · exact q_545
  · exact q_547
  · exact q_549
  · exact q_551
  · exact q_553
  · exact q_555
  · exact q_557
  · exact q_559
  · exact q_561
theorem mCls_ok : ∀ (ci : Nat) (q : vw_C), vwCl[ci]? = some q → ∃ ty0 : Nat → FieldType, (∀ k, k < q.2.2 → parseFieldDescriptor (q.2.1 k).2.2.1 = some (ty0 k)) ∧ (∀ a, a < q.2.2 → ∀ b, b < q.2.2 → a ≠ b → (q.2.1 a).2.1 ≠ (q.2.1 b).2.1) ∧ (∀ w ∈ u_ws q.1 q.2.1 q.2.2, w ∈ mWS) := by
  intro ci q hq
  match ci, hq with
  | 0, hq => cases hq; exact ⟨t_Row, t_Row_ok, n_Row, mCl_Row⟩
  | 1, hq => cases hq; exact ⟨t_Tag, t_Tag_ok, n_Tag, mCl_Tag⟩
  | 2, hq => cases hq; exact ⟨t_Fil, t_Fil_ok, n_Fil, mCl_Fil⟩
  | 3, hq => cases hq; exact ⟨t_Sea, t_Sea_ok, n_Sea, mCl_Sea⟩
  | 4, hq => cases hq; exact ⟨t_Crd, t_Crd_ok, n_Crd, mCl_Crd⟩
  | 5, hq => cases hq; exact ⟨t_Pur, t_Pur_ok, n_Pur, mCl_Pur⟩
  | 6, hq => cases hq; exact ⟨t_Mod, t_Mod_ok, n_Mod, mCl_Mod⟩
  | k + 7, hq => simp [vwCl] at hq
end
section
theorem d_Row_init_0 : decode M_Row_init.2.1 0 = .ok (.aload_n 0, 1) := by decide +kernel
theorem d_Row_init_1 : decode M_Row_init.2.1 1 = .ok (.invokespecial 3, 3) := by decide +kernel
theorem d_Row_init_4 : decode M_Row_init.2.1 4 = .ok (.aload_n 0, 1) := by decide +kernel
theorem d_Row_init_5 : decode M_Row_init.2.1 5 = .ok (.iconst 0, 1) := by decide +kernel
theorem d_Row_init_6 : decode M_Row_init.2.1 6 = .ok (.putfield 9, 3) := by decide +kernel
theorem d_Row_init_9 : decode M_Row_init.2.1 9 = .ok (.aload_n 0, 1) := by decide +kernel
theorem d_Row_init_10 : decode M_Row_init.2.1 10 = .ok (.iload_n 1, 1) := by decide +kernel
theorem d_Row_init_11 : decode M_Row_init.2.1 11 = .ok (.newarray .int, 2) := by decide +kernel
theorem d_Row_init_13 : decode M_Row_init.2.1 13 = .ok (.putfield 15, 3) := by decide +kernel
theorem d_Row_init_16 : decode M_Row_init.2.1 16 = .ok (.return_, 1) := by decide +kernel
theorem d_Row_addNumber_0 : decode M_Row_addNumber.2.1 0 = .ok (.iload_n 3, 1) := by decide +kernel
theorem d_Row_addNumber_1 : decode M_Row_addNumber.2.1 1 = .ok (.iconst 1, 1) := by decide +kernel
theorem d_Row_addNumber_2 : decode M_Row_addNumber.2.1 2 = .ok (.isub, 1) := by decide +kernel
theorem d_Row_addNumber_3 : decode M_Row_addNumber.2.1 3 = .ok (.istore 4, 2) := by decide +kernel
theorem d_Row_addNumber_5 : decode M_Row_addNumber.2.1 5 = .ok (.iload 4, 2) := by decide +kernel
theorem d_Row_addNumber_7 : decode M_Row_addNumber.2.1 7 = .ok (.ifCond .lt 26, 3) := by decide +kernel
theorem d_Row_addNumber_10 : decode M_Row_addNumber.2.1 10 = .ok (.aload_n 0, 1) := by decide +kernel
theorem d_Row_addNumber_11 : decode M_Row_addNumber.2.1 11 = .ok (.lload_n 1, 1) := by decide +kernel
theorem d_Row_addNumber_12 : decode M_Row_addNumber.2.1 12 = .ok (.bipush 8, 2) := by decide +kernel
theorem d_Row_addNumber_14 : decode M_Row_addNumber.2.1 14 = .ok (.iload 4, 2) := by decide +kernel
theorem d_Row_addNumber_16 : decode M_Row_addNumber.2.1 16 = .ok (.imul, 1) := by decide +kernel
theorem d_Row_addNumber_17 : decode M_Row_addNumber.2.1 17 = .ok (.lshr, 1) := by decide +kernel
theorem d_Row_addNumber_18 : decode M_Row_addNumber.2.1 18 = .ok (.l2i, 1) := by decide +kernel
theorem d_Row_addNumber_19 : decode M_Row_addNumber.2.1 19 = .ok (.sipush 255, 3) := by decide +kernel
theorem d_Row_addNumber_22 : decode M_Row_addNumber.2.1 22 = .ok (.iand, 1) := by decide +kernel
theorem d_Row_addNumber_23 : decode M_Row_addNumber.2.1 23 = .ok (.invokevirtual 23, 3) := by decide +kernel
theorem d_Row_addNumber_26 : decode M_Row_addNumber.2.1 26 = .ok (.pop, 1) := by decide +kernel
theorem d_Row_addNumber_27 : decode M_Row_addNumber.2.1 27 = .ok (.iinc 4 (-1), 3) := by decide +kernel
theorem d_Row_addNumber_30 : decode M_Row_addNumber.2.1 30 = .ok (.goto (-25), 3) := by decide +kernel
theorem d_Row_addNumber_33 : decode M_Row_addNumber.2.1 33 = .ok (.return_, 1) := by decide +kernel
theorem d_Row_add_0 : decode M_Row_add.2.1 0 = .ok (.aload_n 0, 1) := by decide +kernel
theorem d_Row_add_1 : decode M_Row_add.2.1 1 = .ok (.getfield 9, 3) := by decide +kernel
theorem d_Row_add_4 : decode M_Row_add.2.1 4 = .ok (.aload_n 0, 1) := by decide +kernel
theorem d_Row_add_5 : decode M_Row_add.2.1 5 = .ok (.getfield 15, 3) := by decide +kernel
theorem d_Row_add_8 : decode M_Row_add.2.1 8 = .ok (.arraylength, 1) := by decide +kernel
theorem d_Row_add_9 : decode M_Row_add.2.1 9 = .ok (.if_icmp .lt 5, 3) := by decide +kernel
theorem d_Row_add_12 : decode M_Row_add.2.1 12 = .ok (.iconst 0, 1) := by decide +kernel
theorem d_Row_add_13 : decode M_Row_add.2.1 13 = .ok (.ireturn, 1) := by decide +kernel
theorem d_Row_add_14 : decode M_Row_add.2.1 14 = .ok (.aload_n 0, 1) := by decide +kernel
theorem d_Row_add_15 : decode M_Row_add.2.1 15 = .ok (.getfield 15, 3) := by decide +kernel
theorem d_Row_add_18 : decode M_Row_add.2.1 18 = .ok (.aload_n 0, 1) := by decide +kernel
theorem d_Row_add_19 : decode M_Row_add.2.1 19 = .ok (.getfield 9, 3) := by decide +kernel
theorem d_Row_add_22 : decode M_Row_add.2.1 22 = .ok (.iload_n 1, 1) := by decide +kernel
theorem d_Row_add_23 : decode M_Row_add.2.1 23 = .ok (.iastore, 1) := by decide +kernel
theorem d_Row_add_24 : decode M_Row_add.2.1 24 = .ok (.aload_n 0, 1) := by decide +kernel
theorem d_Row_add_25 : decode M_Row_add.2.1 25 = .ok (.dup, 1) := by decide +kernel
theorem d_Row_add_26 : decode M_Row_add.2.1 26 = .ok (.getfield 9, 3) := by decide +kernel
theorem d_Row_add_29 : decode M_Row_add.2.1 29 = .ok (.iconst 1, 1) := by decide +kernel
theorem d_Row_add_30 : decode M_Row_add.2.1 30 = .ok (.iadd, 1) := by decide +kernel
theorem d_Row_add_31 : decode M_Row_add.2.1 31 = .ok (.putfield 9, 3) := by decide +kernel
theorem d_Row_add_34 : decode M_Row_add.2.1 34 = .ok (.iconst 1, 1) := by decide +kernel
theorem d_Row_add_35 : decode M_Row_add.2.1 35 = .ok (.ireturn, 1) := by decide +kernel
theorem d_Row_size_0 : decode M_Row_size.2.1 0 = .ok (.aload_n 0, 1) := by decide +kernel
theorem d_Row_size_1 : decode M_Row_size.2.1 1 = .ok (.getfield 9, 3) := by decide +kernel
theorem d_Row_size_4 : decode M_Row_size.2.1 4 = .ok (.ireturn, 1) := by decide +kernel
theorem d_Row_clear_0 : decode M_Row_clear.2.1 0 = .ok (.aload_n 0, 1) := by decide +kernel
theorem d_Row_clear_1 : decode M_Row_clear.2.1 1 = .ok (.iconst 0, 1) := by decide +kernel
theorem d_Row_clear_2 : decode M_Row_clear.2.1 2 = .ok (.putfield 9, 3) := by decide +kernel
theorem d_Row_clear_5 : decode M_Row_clear.2.1 5 = .ok (.return_, 1) := by decide +kernel
theorem d_Row_at_0 : decode M_Row_at.2.1 0 = .ok (.iload_n 1, 1) := by decide +kernel
theorem d_Row_at_1 : decode M_Row_at.2.1 1 = .ok (.ifCond .lt 20, 3) := by decide +kernel
theorem d_Row_at_4 : decode M_Row_at.2.1 4 = .ok (.iload_n 1, 1) := by decide +kernel
theorem d_Row_at_5 : decode M_Row_at.2.1 5 = .ok (.aload_n 0, 1) := by decide +kernel
theorem d_Row_at_6 : decode M_Row_at.2.1 6 = .ok (.getfield 9, 3) := by decide +kernel
theorem d_Row_at_9 : decode M_Row_at.2.1 9 = .ok (.if_icmp .ge 12, 3) := by decide +kernel
theorem d_Row_at_12 : decode M_Row_at.2.1 12 = .ok (.aload_n 0, 1) := by decide +kernel
theorem d_Row_at_13 : decode M_Row_at.2.1 13 = .ok (.getfield 15, 3) := by decide +kernel
theorem d_Row_at_16 : decode M_Row_at.2.1 16 = .ok (.iload_n 1, 1) := by decide +kernel
theorem d_Row_at_17 : decode M_Row_at.2.1 17 = .ok (.iaload, 1) := by decide +kernel
theorem d_Row_at_18 : decode M_Row_at.2.1 18 = .ok (.goto 4, 3) := by decide +kernel
theorem d_Row_at_21 : decode M_Row_at.2.1 21 = .ok (.iconst (-1), 1) := by decide +kernel
theorem d_Row_at_22 : decode M_Row_at.2.1 22 = .ok (.ireturn, 1) := by decide +kernel
theorem d_Row_numberAt_0 : decode M_Row_numberAt.2.1 0 = .ok (.lconst 0, 1) := by decide +kernel
theorem d_Row_numberAt_1 : decode M_Row_numberAt.2.1 1 = .ok (.lstore_n 3, 1) := by decide +kernel
theorem d_Row_numberAt_2 : decode M_Row_numberAt.2.1 2 = .ok (.iconst 0, 1) := by decide +kernel
theorem d_Row_numberAt_3 : decode M_Row_numberAt.2.1 3 = .ok (.istore 5, 2) := by decide +kernel
theorem d_Row_numberAt_5 : decode M_Row_numberAt.2.1 5 = .ok (.iload 5, 2) := by decide +kernel
theorem d_Row_numberAt_7 : decode M_Row_numberAt.2.1 7 = .ok (.iload_n 2, 1) := by decide +kernel
theorem d_Row_numberAt_8 : decode M_Row_numberAt.2.1 8 = .ok (.if_icmp .ge 25, 3) := by decide +kernel
theorem d_Row_numberAt_11 : decode M_Row_numberAt.2.1 11 = .ok (.lload_n 3, 1) := by decide +kernel
theorem d_Row_numberAt_12 : decode M_Row_numberAt.2.1 12 = .ok (.ldc2_w 27, 3) := by decide +kernel
theorem d_Row_numberAt_15 : decode M_Row_numberAt.2.1 15 = .ok (.lmul, 1) := by decide +kernel
theorem d_Row_numberAt_16 : decode M_Row_numberAt.2.1 16 = .ok (.aload_n 0, 1) := by decide +kernel
theorem d_Row_numberAt_17 : decode M_Row_numberAt.2.1 17 = .ok (.iload_n 1, 1) := by decide +kernel
theorem d_Row_numberAt_18 : decode M_Row_numberAt.2.1 18 = .ok (.iload 5, 2) := by decide +kernel
theorem d_Row_numberAt_20 : decode M_Row_numberAt.2.1 20 = .ok (.iadd, 1) := by decide +kernel
theorem d_Row_numberAt_21 : decode M_Row_numberAt.2.1 21 = .ok (.invokevirtual 19, 3) := by decide +kernel
theorem d_Row_numberAt_24 : decode M_Row_numberAt.2.1 24 = .ok (.i2l, 1) := by decide +kernel
theorem d_Row_numberAt_25 : decode M_Row_numberAt.2.1 25 = .ok (.ladd, 1) := by decide +kernel
theorem d_Row_numberAt_26 : decode M_Row_numberAt.2.1 26 = .ok (.lstore_n 3, 1) := by decide +kernel
theorem d_Row_numberAt_27 : decode M_Row_numberAt.2.1 27 = .ok (.iinc 5 1, 3) := by decide +kernel
theorem d_Row_numberAt_30 : decode M_Row_numberAt.2.1 30 = .ok (.goto (-25), 3) := by decide +kernel
theorem d_Row_numberAt_33 : decode M_Row_numberAt.2.1 33 = .ok (.lload_n 3, 1) := by decide +kernel
theorem d_Row_numberAt_34 : decode M_Row_numberAt.2.1 34 = .ok (.lreturn, 1) := by decide +kernel
theorem d_Row_openTag_0 : decode M_Row_openTag.2.1 0 = .ok (.iload_n 1, 1) := by decide +kernel
theorem d_Row_openTag_1 : decode M_Row_openTag.2.1 1 = .ok (.sipush 255, 3) := by decide +kernel
theorem d_Row_openTag_4 : decode M_Row_openTag.2.1 4 = .ok (.if_icmp .le 12, 3) := by decide +kernel
theorem d_Row_openTag_7 : decode M_Row_openTag.2.1 7 = .ok (.aload_n 0, 1) := by decide +kernel
theorem d_Row_openTag_8 : decode M_Row_openTag.2.1 8 = .ok (.iload_n 1, 1) := by decide +kernel
theorem d_Row_openTag_9 : decode M_Row_openTag.2.1 9 = .ok (.bipush 8, 2) := by decide +kernel
theorem d_Row_openTag_11 : decode M_Row_openTag.2.1 11 = .ok (.ishr, 1) := by decide +kernel
theorem d_Row_openTag_12 : decode M_Row_openTag.2.1 12 = .ok (.invokevirtual 23, 3) := by decide +kernel
theorem d_Row_openTag_15 : decode M_Row_openTag.2.1 15 = .ok (.pop, 1) := by decide +kernel
theorem d_Row_openTag_16 : decode M_Row_openTag.2.1 16 = .ok (.aload_n 0, 1) := by decide +kernel
theorem d_Row_openTag_17 : decode M_Row_openTag.2.1 17 = .ok (.iload_n 1, 1) := by decide +kernel
theorem d_Row_openTag_18 : decode M_Row_openTag.2.1 18 = .ok (.sipush 255, 3) := by decide +kernel
theorem d_Row_openTag_21 : decode M_Row_openTag.2.1 21 = .ok (.iand, 1) := by decide +kernel
theorem d_Row_openTag_22 : decode M_Row_openTag.2.1 22 = .ok (.invokevirtual 23, 3) := by decide +kernel
theorem d_Row_openTag_25 : decode M_Row_openTag.2.1 25 = .ok (.pop, 1) := by decide +kernel
theorem d_Row_openTag_26 : decode M_Row_openTag.2.1 26 = .ok (.aload_n 0, 1) := by decide +kernel
theorem d_Row_openTag_27 : decode M_Row_openTag.2.1 27 = .ok (.iconst 0, 1) := by decide +kernel
theorem d_Row_openTag_28 : decode M_Row_openTag.2.1 28 = .ok (.invokevirtual 23, 3) := by decide +kernel
theorem d_Row_openTag_31 : decode M_Row_openTag.2.1 31 = .ok (.pop, 1) := by decide +kernel
theorem d_Row_openTag_32 : decode M_Row_openTag.2.1 32 = .ok (.aload_n 0, 1) := by decide +kernel
theorem d_Row_openTag_33 : decode M_Row_openTag.2.1 33 = .ok (.getfield 9, 3) := by decide +kernel
theorem d_Row_openTag_36 : decode M_Row_openTag.2.1 36 = .ok (.ireturn, 1) := by decide +kernel
theorem d_Row_addRow_0 : decode M_Row_addRow.2.1 0 = .ok (.iconst 0, 1) := by decide +kernel
theorem d_Row_addRow_1 : decode M_Row_addRow.2.1 1 = .ok (.istore_n 2, 1) := by decide +kernel
theorem d_Row_addRow_2 : decode M_Row_addRow.2.1 2 = .ok (.iload_n 2, 1) := by decide +kernel
theorem d_Row_addRow_3 : decode M_Row_addRow.2.1 3 = .ok (.aload_n 1, 1) := by decide +kernel
theorem d_Row_addRow_4 : decode M_Row_addRow.2.1 4 = .ok (.getfield 9, 3) := by decide +kernel
theorem d_Row_addRow_7 : decode M_Row_addRow.2.1 7 = .ok (.if_icmp .ge 19, 3) := by decide +kernel
theorem d_Row_addRow_10 : decode M_Row_addRow.2.1 10 = .ok (.aload_n 0, 1) := by decide +kernel
theorem d_Row_addRow_11 : decode M_Row_addRow.2.1 11 = .ok (.aload_n 1, 1) := by decide +kernel
theorem d_Row_addRow_12 : decode M_Row_addRow.2.1 12 = .ok (.iload_n 2, 1) := by decide +kernel
theorem d_Row_addRow_13 : decode M_Row_addRow.2.1 13 = .ok (.invokevirtual 19, 3) := by decide +kernel
theorem d_Row_addRow_16 : decode M_Row_addRow.2.1 16 = .ok (.invokevirtual 23, 3) := by decide +kernel
theorem d_Row_addRow_19 : decode M_Row_addRow.2.1 19 = .ok (.pop, 1) := by decide +kernel
theorem d_Row_addRow_20 : decode M_Row_addRow.2.1 20 = .ok (.iinc 2 1, 3) := by decide +kernel
theorem d_Row_addRow_23 : decode M_Row_addRow.2.1 23 = .ok (.goto (-21), 3) := by decide +kernel
theorem d_Row_addRow_26 : decode M_Row_addRow.2.1 26 = .ok (.return_, 1) := by decide +kernel
theorem d_Row_closeTag_0 : decode M_Row_closeTag.2.1 0 = .ok (.iload_n 1, 1) := by decide +kernel
theorem d_Row_closeTag_1 : decode M_Row_closeTag.2.1 1 = .ok (.iconst 1, 1) := by decide +kernel
theorem d_Row_closeTag_2 : decode M_Row_closeTag.2.1 2 = .ok (.if_icmp .lt 25, 3) := by decide +kernel
theorem d_Row_closeTag_5 : decode M_Row_closeTag.2.1 5 = .ok (.iload_n 1, 1) := by decide +kernel
theorem d_Row_closeTag_6 : decode M_Row_closeTag.2.1 6 = .ok (.aload_n 0, 1) := by decide +kernel
theorem d_Row_closeTag_7 : decode M_Row_closeTag.2.1 7 = .ok (.getfield 9, 3) := by decide +kernel
theorem d_Row_closeTag_10 : decode M_Row_closeTag.2.1 10 = .ok (.if_icmp .gt 17, 3) := by decide +kernel
theorem d_Row_closeTag_13 : decode M_Row_closeTag.2.1 13 = .ok (.aload_n 0, 1) := by decide +kernel
theorem d_Row_closeTag_14 : decode M_Row_closeTag.2.1 14 = .ok (.getfield 15, 3) := by decide +kernel
theorem d_Row_closeTag_17 : decode M_Row_closeTag.2.1 17 = .ok (.iload_n 1, 1) := by decide +kernel
theorem d_Row_closeTag_18 : decode M_Row_closeTag.2.1 18 = .ok (.iconst 1, 1) := by decide +kernel
theorem d_Row_closeTag_19 : decode M_Row_closeTag.2.1 19 = .ok (.isub, 1) := by decide +kernel
theorem d_Row_closeTag_20 : decode M_Row_closeTag.2.1 20 = .ok (.aload_n 0, 1) := by decide +kernel
theorem d_Row_closeTag_21 : decode M_Row_closeTag.2.1 21 = .ok (.getfield 9, 3) := by decide +kernel
theorem d_Row_closeTag_24 : decode M_Row_closeTag.2.1 24 = .ok (.iload_n 1, 1) := by decide +kernel
theorem d_Row_closeTag_25 : decode M_Row_closeTag.2.1 25 = .ok (.isub, 1) := by decide +kernel
theorem d_Row_closeTag_26 : decode M_Row_closeTag.2.1 26 = .ok (.iastore, 1) := by decide +kernel
theorem d_Row_closeTag_27 : decode M_Row_closeTag.2.1 27 = .ok (.return_, 1) := by decide +kernel
theorem d_Row_addTagged_0 : decode M_Row_addTagged.2.1 0 = .ok (.aload_n 0, 1) := by decide +kernel
theorem d_Row_addTagged_1 : decode M_Row_addTagged.2.1 1 = .ok (.iload_n 1, 1) := by decide +kernel
theorem d_Row_addTagged_2 : decode M_Row_addTagged.2.1 2 = .ok (.invokevirtual 29, 3) := by decide +kernel
theorem d_Row_addTagged_5 : decode M_Row_addTagged.2.1 5 = .ok (.istore 5, 2) := by decide +kernel
theorem d_Row_addTagged_7 : decode M_Row_addTagged.2.1 7 = .ok (.aload_n 0, 1) := by decide +kernel
theorem d_Row_addTagged_8 : decode M_Row_addTagged.2.1 8 = .ok (.lload_n 2, 1) := by decide +kernel
theorem d_Row_addTagged_9 : decode M_Row_addTagged.2.1 9 = .ok (.iload 4, 2) := by decide +kernel
theorem d_Row_addTagged_11 : decode M_Row_addTagged.2.1 11 = .ok (.invokevirtual 32, 3) := by decide +kernel
theorem d_Row_addTagged_14 : decode M_Row_addTagged.2.1 14 = .ok (.aload_n 0, 1) := by decide +kernel
theorem d_Row_addTagged_15 : decode M_Row_addTagged.2.1 15 = .ok (.iload 5, 2) := by decide +kernel
theorem d_Row_addTagged_17 : decode M_Row_addTagged.2.1 17 = .ok (.invokevirtual 36, 3) := by decide +kernel
theorem d_Row_addTagged_20 : decode M_Row_addTagged.2.1 20 = .ok (.return_, 1) := by decide +kernel
end
section
/-! THE SMALL MACHINE: values, cells and heaps by number; its judgement mGo is the kit's W for every state that fits. -/
abbrev mCell : Type := (FieldType × vp_A) ⊕ (Nat × List Value)
abbrev mHeap : Type := List mCell
abbrev mAl : Type := List (Nat × ClassId)
theorem mWS_ok {w : Cond} (h : w ∈ mWS) : (w.onTables && w.keeps) = true ∨ ∃ ty, w = .arrayClass ty := by
  have h2 : mOkW w = true := (List.mem_filter.mp h).2
  rcases Bool.or_eq_true_iff.mp h2 with h3 | h3
  · exact Or.inl h3
  · cases w <;> first | exact Or.inr ⟨_, rfl⟩ | cases h3
abbrev mWs (J : mM) : List Cond := Cond.code J.1 J.2.1 J.2.2.1 J.2.2.2 :: mWS
theorem mWs_good {J : mM} (h : Cond.code J.1 J.2.1 J.2.2.1 J.2.2.2 ∈ mWS) : GoodIn mWS (mWs J) := by
  intro w hw
  rcases List.mem_cons.mp hw with rfl | hw
  · exact ⟨h, mWS_ok h⟩
  · exact ⟨hw, mWS_ok hw⟩
def mF (ro : Nat → Nat) (al : mAl) (v : Value) : Option Value := match v with
  | .ref k => (al[k]?).map (fun q => Value.ref q.1)
  | .retAddr k => some (.ref (ro k))
  | .int x => some (.int x)
  | .long x => some (.long x)
  | .float x => some (.float x)
  | .double x => some (.double x)
  | .null => some .null
def mExt (al al' : mAl) : Prop := ∀ (k : Nat) (q : Nat × ClassId), al[k]? = some q → al'[k]? = some q
theorem mExt.rf {al : mAl} : mExt al al := fun _ _ h => h
theorem mExt.tr {a b c : mAl} (h1 : mExt a b) (h2 : mExt b c) : mExt a c := fun k q h => h2 k q (h1 k q h)
theorem mExt.push {al : mAl} {x : Nat × ClassId} : mExt al (al ++ [x]) := fun k q h => by
  rw [List.getElem?_append_left ((List.getElem?_eq_some_iff.mp h).1)]; exact h
theorem mF_ext {ro : Nat → Nat} {al al' : mAl} {v w : Value} (hx : mExt al al') (h : mF ro al v = some w) : mF ro al' v = some w := by
  cases v with
  | ref k =>
    simp only [mF, Option.map_eq_some_iff] at h ⊢
    obtain ⟨q, h1, h2⟩ := h
    exact ⟨q, hx k q h1, h2⟩
  | _ => exact h
theorem mF_cat {ro : Nat → Nat} {al : mAl} {v w : Value} (h : mF ro al v = some w) : w.category = v.category := by
  cases v with
  | ref k =>
    simp only [mF, Option.map_eq_some_iff] at h
    obtain ⟨q, h1, h2⟩ := h
    subst h2
    rfl
  | _ => simp only [mF, Option.some.injEq] at h; subst h; rfl
def mL (ro : Nat → Nat) (al : mAl) : List Value → List Value → Prop
  | [], [] => True
  | v :: l, w :: l' => mF ro al v = some w ∧ mL ro al l l'
  | _, _ => False
theorem mL_ext {ro : Nat → Nat} {al al' : mAl} (hx : mExt al al') : ∀ {l l' : List Value}, mL ro al l l' → mL ro al' l l'
  | [], [], _ => trivial
  | _ :: _, _ :: _, h => ⟨mF_ext hx h.1, mL_ext hx h.2⟩
theorem mL_c {ro : Nat → Nat} {al : mAl} {v : Value} {l l' : List Value} (h : mL ro al (v :: l) l') : ∃ w r, l' = w :: r ∧ mF ro al v = some w ∧ mL ro al l r := by
  cases l' with
  | nil => exact h.elim
  | cons w r => exact ⟨w, r, rfl, h.1, h.2⟩
theorem mL_n {ro : Nat → Nat} {al : mAl} {l' : List Value} (h : mL ro al [] l') : l' = [] := by
  cases l' with
  | nil => rfl
  | cons w r => exact h.elim
theorem mL_i {ro : Nat → Nat} {al : mAl} {x : Int32} {l l' : List Value} (h : mL ro al (.int x :: l) l') : ∃ r, l' = .int x :: r ∧ mL ro al l r := by
  obtain ⟨w, r, rfl, h1, h2⟩ := mL_c h
  cases h1
  exact ⟨r, rfl, h2⟩
theorem mL_l {ro : Nat → Nat} {al : mAl} {x : Int64} {l l' : List Value} (h : mL ro al (.long x :: l) l') : ∃ r, l' = .long x :: r ∧ mL ro al l r := by
  obtain ⟨w, r, rfl, h1, h2⟩ := mL_c h
  cases h1
  exact ⟨r, rfl, h2⟩
theorem mL_r {ro : Nat → Nat} {al : mAl} {k : Nat} {l l' : List Value} (h : mL ro al (.ref k :: l) l') : ∃ a c r, l' = .ref a :: r ∧ al[k]? = some (a, c) ∧ mL ro al l r := by
  obtain ⟨w, r, rfl, h1, h2⟩ := mL_c h
  simp only [mF, Option.map_eq_some_iff] at h1
  obtain ⟨⟨a, c⟩, h3, h4⟩ := h1
  subst h4
  exact ⟨a, c, r, rfl, h3, h2⟩
theorem mL_o {ro : Nat → Nat} {al : mAl} {k : Nat} {l l' : List Value} (h : mL ro al (.retAddr k :: l) l') : ∃ r, l' = .ref (ro k) :: r ∧ mL ro al l r := by
  obtain ⟨w, r, rfl, h1, h2⟩ := mL_c h
  cases h1
  exact ⟨r, rfl, h2⟩
theorem mL_app {ro : Nat → Nat} {al : mAl} : ∀ {l1 l2 l' : List Value}, mL ro al (l1 ++ l2) l' → ∃ a b, l' = a ++ b ∧ mL ro al l1 a ∧ mL ro al l2 b
  | [], l2, l', h => ⟨[], l', rfl, trivial, h⟩
  | v :: l1, l2, l', h => by
    obtain ⟨w, r, rfl, h1, h2⟩ := mL_c (l := l1 ++ l2) h
    obtain ⟨a, b, rfl, h3, h4⟩ := mL_app h2
    exact ⟨w :: a, b, rfl, ⟨h1, h3⟩, h4⟩
theorem mL_join {ro : Nat → Nat} {al : mAl} : ∀ {l1 l2 a b : List Value}, mL ro al l1 a → mL ro al l2 b → mL ro al (l1 ++ l2) (a ++ b)
  | [], l2, a, b, h1, h2 => by rw [mL_n h1]; exact h2
  | v :: l1, l2, a, b, h1, h2 => by
    obtain ⟨w, r, rfl, h3, h4⟩ := mL_c h1
    exact ⟨h3, mL_join h4 h2⟩
theorem mL_rev {ro : Nat → Nat} {al : mAl} : ∀ {l a : List Value}, mL ro al l a → mL ro al l.reverse a.reverse
  | [], a, h => by rw [mL_n h]; exact trivial
  | v :: l, a, h => by
    obtain ⟨w, r, rfl, h1, h2⟩ := mL_c h
    rw [List.reverse_cons, List.reverse_cons]
    exact mL_join (mL_rev h2) ⟨h1, trivial⟩
theorem mL_len {ro : Nat → Nat} {al : mAl} : ∀ {l a : List Value}, mL ro al l a → a.length = l.length
  | [], a, h => by rw [mL_n h]
  | v :: l, a, h => by
    obtain ⟨w, r, rfl, h1, h2⟩ := mL_c h
    rw [List.length_cons, List.length_cons, mL_len h2]
theorem mL_catsum {ro : Nat → Nat} {al : mAl} : ∀ {l a : List Value}, mL ro al l a → (a.map fun v => v.category) = (l.map fun v => v.category)
  | [], a, h => by rw [mL_n h]
  | v :: l, a, h => by
    obtain ⟨w, r, rfl, h1, h2⟩ := mL_c h
    rw [List.map_cons, List.map_cons, mL_catsum h2, mF_cat h1]
theorem mL_get {ro : Nat → Nat} {al : mAl} : ∀ {l a : List Value} {k : Nat} {v : Value}, mL ro al l a → l[k]? = some v → ∃ w, a[k]? = some w ∧ mF ro al v = some w
  | [], a, k, v, h, hk => by simp at hk
  | u :: l, a, k, v, h, hk => by
    obtain ⟨w, r, rfl, h1, h2⟩ := mL_c h
    cases k with
    | zero => rw [List.getElem?_cons_zero] at hk; cases hk; exact ⟨w, rfl, h1⟩
    | succ k => rw [List.getElem?_cons_succ] at hk ⊢; exact mL_get h2 hk
theorem mL_set {ro : Nat → Nat} {al : mAl} : ∀ {l a : List Value} {k : Nat} {v w : Value}, mL ro al l a → mF ro al v = some w → mL ro al (l.set k v) (a.set k w)
  | [], a, k, v, w, h, hk => by rw [mL_n h]; exact trivial
  | u :: l, a, k, v, w, h, hk => by
    obtain ⟨w', r, rfl, h1, h2⟩ := mL_c h
    cases k with
    | zero => exact ⟨hk, h2⟩
    | succ k => exact ⟨h1, mL_set h2 hk⟩
-- locals
def mInv (lv : List (Option Value)) (i : Nat) : List (Option Value) := match i with
  | 0 => lv
  | k + 1 => match lv[k]? with
    | some (some v) => bif v.category == 2 then lv.set k none else lv
    | _ => lv
def mSt1 (lv : List (Option Value)) (i : Nat) (v : Value) : List (Option Value) := (mInv lv i).set i (some v)
def mSt2 (lv : List (Option Value)) (i : Nat) (v : Value) : List (Option Value) := ((mInv lv i).set i (some v)).set (i + 1) none
def mLv (ro : Nat → Nat) (al : mAl) (nL : Nat) (ls : Array Slot) (lv : List (Option Value)) : Prop :=
  lv.length = nL ∧ ∃ lc : List (Nat × Value), lv_has ls nL lc ∧ ∀ (i : Nat) (v : Value), lv[i]? = some (some v) → ∃ w, mF ro al v = some w ∧ (i, w) ∈ lc
theorem mLv_at {ro : Nat → Nat} {al : mAl} {nL : Nat} {ls : Array Slot} {lv : List (Option Value)} {i : Nat} {v : Value} (h : mLv ro al nL ls lv) (hv : lv[i]? = some (some v)) : ∃ w, mF ro al v = some w ∧ ls[i]? = some (.val w) := by
  obtain ⟨-, lc, h1, h2⟩ := h
  obtain ⟨w, h3, h4⟩ := h2 i v hv
  exact ⟨w, h3, h1.2.2 (i, w) h4⟩
theorem mLv_ext {ro : Nat → Nat} {al al' : mAl} {nL : Nat} {ls : Array Slot} {lv : List (Option Value)} (hx : mExt al al') (h : mLv ro al nL ls lv) : mLv ro al' nL ls lv := by
  obtain ⟨h0, lc, h1, h2⟩ := h
  refine ⟨h0, lc, h1, fun i v hv => ?_⟩
  obtain ⟨w, h3, h4⟩ := h2 i v hv
  exact ⟨w, mF_ext hx h3, h4⟩
theorem mInv_len (lv : List (Option Value)) (i : Nat) : (mInv lv i).length = lv.length := by
  cases i with
  | zero => rfl
  | succ k =>
    simp only [mInv]
    split
    · cases hb : (Value.category _ == 2) <;> simp
    · rfl
theorem mInv_at {lv : List (Option Value)} {i j : Nat} {v : Value} (h : (mInv lv i)[j]? = some (some v)) : lv[j]? = some (some v) ∧ ¬ (j + 1 = i ∧ v.category = 2) := by
  cases i with
  | zero => exact ⟨h, fun z => by omega⟩
  | succ k =>
    simp only [mInv] at h
    split at h
    · next u hu =>
      cases hb : (u.category == 2) with
      | false =>
        rw [hb, cond_false] at h
        refine ⟨h, fun z => ?_⟩
        have : j = k := by omega
        subst this
        rw [hu] at h
        cases h
        simp [z.2] at hb
      | true =>
        rw [hb, cond_true] at h
        by_cases hj : j = k
        · subst hj
          have hl := (List.getElem?_eq_some_iff.mp hu).1
          rw [List.getElem?_set_self hl] at h
          cases h
        · rw [List.getElem?_set_ne (Ne.symm hj)] at h
          exact ⟨h, fun z => hj (by omega)⟩
    · next hne =>
      refine ⟨h, fun z => ?_⟩
      have : j = k := by omega
      subst this
      exact hne v h
theorem mLv_st1 {ro : Nat → Nat} {al : mAl} {nL : Nat} {ls : Array Slot} {lv : List (Option Value)} {i : Nat} {v w : Value} (h : mLv ro al nL ls lv) (hv : mF ro al v = some w) (hi : i < nL) :
    ∃ lc : List (Nat × Value), lv_has ls nL lc ∧ ∀ ls' : Array Slot, lv_has ls' nL ((i, w) :: lc.filter (fun q => !(q.1 == i) && !(q.1 + 1 == i && q.2.category == 2))) → mLv ro al nL ls' (mSt1 lv i v) := by
  obtain ⟨h0, lc, h1, h2⟩ := h
  refine ⟨lc, h1, fun ls' h3 => ⟨by simp [mSt1, mInv_len, h0], _, h3, fun j u hu => ?_⟩⟩
  by_cases hj : j = i
  · subst hj
    rw [mSt1, List.getElem?_set_self (by rw [mInv_len, h0]; exact hi)] at hu
    cases hu
    exact ⟨w, hv, List.mem_cons_self⟩
  · rw [mSt1, List.getElem?_set_ne (Ne.symm hj)] at hu
    obtain ⟨h4, h5⟩ := mInv_at hu
    obtain ⟨w', h6, h7⟩ := h2 j u h4
    refine ⟨w', h6, List.mem_cons_of_mem _ (List.mem_filter.mpr ⟨h7, ?_⟩)⟩
    have hc := mF_cat h6
    simp only [Bool.and_eq_true, Bool.not_eq_true', beq_eq_false_iff_ne, ne_eq, Bool.and_eq_false_iff]
    refine ⟨hj, ?_⟩
    by_cases z : j + 1 = i
    · exact Or.inr (fun y => h5 ⟨z, by rw [← hc]; exact y⟩)
    · exact Or.inl z
theorem mLv_st2 {ro : Nat → Nat} {al : mAl} {nL : Nat} {ls : Array Slot} {lv : List (Option Value)} {i : Nat} {v w : Value} (h : mLv ro al nL ls lv) (hv : mF ro al v = some w) (hi : i + 1 < nL) :
    ∃ lc : List (Nat × Value), lv_has ls nL lc ∧ ∀ ls' : Array Slot, lv_has ls' nL ((i, w) :: lc.filter (fun q => !(q.1 == i) && (!(q.1 == i + 1) && !(q.1 + 1 == i && q.2.category == 2)))) → mLv ro al nL ls' (mSt2 lv i v) := by
  obtain ⟨h0, lc, h1, h2⟩ := h
  refine ⟨lc, h1, fun ls' h3 => ⟨by simp [mSt2, mInv_len, h0], _, h3, fun j u hu => ?_⟩⟩
  by_cases hj1 : j = i + 1
  · subst hj1
    rw [mSt2, List.getElem?_set_self (by simp [mInv_len, h0]; exact hi)] at hu
    cases hu
  · rw [mSt2, List.getElem?_set_ne (Ne.symm hj1)] at hu
    by_cases hj : j = i
    · subst hj
      rw [List.getElem?_set_self (by rw [mInv_len, h0]; omega)] at hu
      cases hu
      exact ⟨w, hv, List.mem_cons_self⟩
    · rw [List.getElem?_set_ne (Ne.symm hj)] at hu
      obtain ⟨h4, h5⟩ := mInv_at hu
      obtain ⟨w', h6, h7⟩ := h2 j u h4
      refine ⟨w', h6, List.mem_cons_of_mem _ (List.mem_filter.mpr ⟨h7, ?_⟩)⟩
      have hc := mF_cat h6
      simp only [Bool.and_eq_true, Bool.not_eq_true', beq_eq_false_iff_ne, ne_eq, Bool.and_eq_false_iff]
      refine ⟨hj, hj1, ?_⟩
      by_cases z : j + 1 = i
      · exact Or.inr (fun y => h5 ⟨z, by rw [← hc]; exact y⟩)
      · exact Or.inl z
-- cells
def mE (U : State) (ro : Nat → Nat) (al : mAl) (c : ClassId) (e : mCell) (f : va_E) : Prop := match e with
  | .inl x => f = .inl (c, x.2) ∧ (∀ g, x.2.2 ≠ .inr (.inr (.inr (.inr g)))) ∧ ArrOfT U c x.1 ∧ va_RA U c x.1
  | .inr o => ∃ fs, f = .inr (o.1, fs) ∧ mL ro al o.2 fs
def mWd (U : State) (ro : Nat → Nat) (al : mAl) (h : mHeap) (ws : va_W) : Prop :=
  al.length = h.length ∧ ws.length = h.length ∧ ∀ (k : Nat) (e : mCell), h[k]? = some e → ∃ (a : Nat) (c : ClassId) (f : va_E), al[k]? = some (a, c) ∧ ws[k]? = some (a, f) ∧ mE U ro al c e f
theorem mE_ext {U : State} {ro : Nat → Nat} {al al' : mAl} {c : ClassId} {e : mCell} {f : va_E} (hx : mExt al al') (h : mE U ro al c e f) : mE U ro al' c e f := by
  cases e with
  | inl x => exact h
  | inr o =>
    obtain ⟨fs, h1, h2⟩ := h
    exact ⟨fs, h1, mL_ext hx h2⟩
theorem mE_moved {u U : State} (hvm : u.vm.Alike U.vm) {ro : Nat → Nat} {al : mAl} {c : ClassId} {e : mCell} {f : va_E} (h : mE u ro al c e f) : mE U ro al c e f := by
  cases e with
  | inl x => exact ⟨h.1, h.2.1, arrOfT_moved hvm h.2.2.1, h.2.2.2.moved hvm⟩
  | inr o => exact h
theorem mWd_moved {u U : State} (hvm : u.vm.Alike U.vm) {ro : Nat → Nat} {al : mAl} {h : mHeap} {ws : va_W} (w : mWd u ro al h ws) : mWd U ro al h ws := by
  refine ⟨w.1, w.2.1, fun k e he => ?_⟩
  obtain ⟨a, c, f, h1, h2, h3⟩ := w.2.2 k e he
  exact ⟨a, c, f, h1, h2, mE_moved hvm h3⟩
theorem mWd_set {U : State} {ro : Nat → Nat} {al : mAl} {h : mHeap} {ws : va_W} (w : mWd U ro al h ws) {k a : Nat} {c : ClassId} {e : mCell} {f : va_E} (hk : al[k]? = some (a, c)) (he : mE U ro al c e f) : mWd U ro al (h.set k e) (ws.set k (a, f)) := by
  refine ⟨by rw [List.length_set]; exact w.1, by rw [List.length_set, List.length_set]; exact w.2.1, fun j e' hj => ?_⟩
  have hl : k < al.length := (List.getElem?_eq_some_iff.mp hk).1
  by_cases hjk : j = k
  · subst hjk
    rw [List.getElem?_set_self (by rw [← w.1]; exact hl)] at hj
    cases hj
    exact ⟨a, c, f, hk, List.getElem?_set_self (by rw [w.2.1, ← w.1]; exact hl), he⟩
  · rw [List.getElem?_set_ne (Ne.symm hjk)] at hj
    obtain ⟨a', c', f', h1, h2, h3⟩ := w.2.2 j e' hj
    exact ⟨a', c', f', h1, by rw [List.getElem?_set_ne (Ne.symm hjk)]; exact h2, h3⟩
theorem mWd_push {U : State} {ro : Nat → Nat} {al : mAl} {h : mHeap} {ws : va_W} (w : mWd U ro al h ws) {a : Nat} {c : ClassId} {e : mCell} {f : va_E} (he : mE U ro (al ++ [(a, c)]) c e f) : mWd U ro (al ++ [(a, c)]) (h ++ [e]) (ws ++ [(a, f)]) := by
  refine ⟨by simp [w.1], by simp [w.2.1], fun j e' hj => ?_⟩
  by_cases hl : j < h.length
  · rw [List.getElem?_append_left hl] at hj
    obtain ⟨a', c', f', h1, h2, h3⟩ := w.2.2 j e' hj
    exact ⟨a', c', f', mExt.push j _ h1, by rw [List.getElem?_append_left (by rw [w.2.1]; exact hl)]; exact h2, mE_ext mExt.push h3⟩
  · rw [List.getElem?_append_right (by omega)] at hj
    have hz : j - h.length < 1 := (List.getElem?_eq_some_iff.mp hj).1
    have hj0 : j = h.length := by omega
    subst hj0
    rw [Nat.sub_self] at hj
    cases hj
    exact ⟨a, c, f, by rw [← w.1]; simp, by rw [← w.2.1]; simp, he⟩
-- arrays that nobody writes: number 0 the script, number k + 1 the static table k
def mRo (ro : Nat → Nat) (L : Nat) (xs : Nat → Int32) (A : Nat → Prop) (U : State) (H : Heap) : Prop :=
  va_T .int (ro 0) L (fun j => .int (xs j)) A U H ∧ ∀ (k : Nat) (q : String × String × Nat × (Nat → Int32)), mStat[k]? = some q → va_Z q.1 q.2.1 "[I" (.ref (ro (k + 1))) A U H ∧ va_T .int (ro (k + 1)) q.2.2.1 (fun j => .int (q.2.2.2 j)) A U H
def mRoA (L : Nat) (xs : Nat → Int32) : Nat → Option (Nat × (Nat → Int32))
  | 0 => some (L, xs)
  | k + 1 => (mStat[k]?).map (fun q => q.2.2)
theorem mRo_T {ro : Nat → Nat} {L : Nat} {xs : Nat → Int32} {A : Nat → Prop} {U : State} {H : Heap} (h : mRo ro L xs A U H) {k N : Nat} {f : Nat → Int32} (hk : mRoA L xs k = some (N, f)) : va_T .int (ro k) N (fun j => .int (f j)) A U H := by
  cases k with
  | zero => cases hk; exact h.1
  | succ k =>
    simp only [mRoA, Option.map_eq_some_iff] at hk
    obtain ⟨q, h1, h2⟩ := hk
    have := (h.2 k q h1).2
    rw [h2] at this
    exact this
theorem mRo_moved {ro : Nat → Nat} {L : Nat} {xs : Nat → Int32} {A : Nat → Prop} {u U : State} {H : Heap} (hvm : u.vm.Alike U.vm) (h : mRo ro L xs A u H) : mRo ro L xs A U H :=
  ⟨h.1.moved hvm, fun k q hk => ⟨(h.2 k q hk).1.moved hvm, (h.2 k q hk).2.moved hvm⟩⟩
theorem mRo_kept {ro : Nat → Nat} {L : Nat} {xs : Nat → Int32} {A : Nat → Prop} {U : State} {H H1 : Heap} (h : mRo ro L xs A U H) (hq : ∀ a : Nat, a < H.size → ¬ A a → H1[a]? = H[a]?) : mRo ro L xs A U H1 :=
  ⟨h.1.kept hq, fun k q hk => ⟨(h.2 k q hk).1.kept hq, (h.2 k q hk).2.kept hq⟩⟩
theorem mRo_narrow {ro : Nat → Nat} {L : Nat} {xs : Nat → Int32} {A B : Nat → Prop} {U : State} {H : Heap} (h : mRo ro L xs A U H) (hAB : ∀ q, B q → A q) : mRo ro L xs B U H :=
  ⟨h.1.narrow hAB, fun k q hk => ⟨(h.2 k q hk).1.narrow hAB, (h.2 k q hk).2.narrow hAB⟩⟩
-- the judgement
abbrev mRm (d : Nat × Nat) (mc ms : Nat) : Room := { frames := d.1, cells := mc, slots := ms, locals := d.2 }
def mCtx (J : mM) (L : Nat) (xs : Nat → Int32) (d : Nat × Nat) (MC MS : Nat) (p : Program) (R : Room) (s : State) (m : MethodId) (args : Array Value) (meth : Method) (c : Code) (D : va_G) (ro : Nat → Nat) (A : Nat → Prop) : Prop :=
  p.tables.exec = Jvm.exec ∧ c.code = J.2.1 ∧ meth.sig.returnType = J.2.2.2 ∧ c.maxLocals = J.2.2.1 ∧ s.vm.findClass J.1.cls = some m.cls ∧ (∀ w ∈ mWS, w.before args s = true) ∧ (J.1.name = "<init>" → meth.name = "<init>") ∧ (va_K D vwCl [] s ∧ mNs s) ∧ mRo ro L xs A s s.heap ∧ (∀ q, s.heap.size ≤ q → A q) ∧ d.1 ≤ R.frames ∧ d.2 ≤ R.locals ∧ MC ≤ R.cells ∧ MS ≤ R.slots
def mDyn (ro : Nat → Nat) (A : Nat → Prop) (s : State) (D : va_G) (al : mAl) (ws : va_W) (H : Heap) (locs : List Loc) (h : mHeap) : Prop :=
  va_P D vwCl ws H ∧ va_D A ws ∧ va_S A s.heap H locs ∧ mWd s ro al h ws
def mO (ro : Nat → Nat) (al : mAl) : Option Value → Option Value → Prop
  | none, none => True
  | some v, some w => mF ro al v = some w
  | _, _ => False
def mRetOk (J : mM) (pc : Nat) : Option Value → Prop
  | none => J.2.2.2 = none ∧ decode J.2.1 pc = .ok (.return_, 1)
  | some (.int v) => ∃ ty, J.2.2.2 = some ty ∧ narrow ty (.int v) = .int v ∧ decode J.2.1 pc = .ok (.ireturn, 1)
  | some (.long _) => J.2.2.2 = some .long ∧ decode J.2.1 pc = .ok (.lreturn, 1)
  | some (.ref _) => (∃ rt, J.2.2.2 = some rt ∧ ((∃ n, rt = .object n) ∨ ∃ t, rt = .array t)) ∧ decode J.2.1 pc = .ok (.areturn, 1)
  | _ => False
def mHd (J : mM) (MC MS : Nat) (Post : Option Value → mHeap → Prop) (p : Program) (l : Launch) (e : Env) (R : Room) (s : State) (m : MethodId) (args : Array Value) (below : List Frame) (meth : Method) (c : Code) (D : va_G) (ro : Nat → Nat) (A : Nat → Prop) (al0 : mAl) (Q : State → Prop) : Prop :=
  ∀ (pc : Nat) (ls : Array Slot) (H : Heap) (locs : List Loc) (al : mAl) (ws : va_W) (r rC : Option Value) (h : mHeap), mExt al0 al → mDyn ro A s D al ws H locs h → mO ro al r rC → mRetOk J pc r → Post r h → W p l e R s m args below meth c H locs MC MS Q (F0 m pc ls rC.toList)
def mGo (J : mM) (L : Nat) (xs : Nat → Int32) (d : Nat × Nat) (MC MS : Nat) (Post : Option Value → mHeap → Prop) (cn sn pc : Nat) (lv : List (Option Value)) (st : List Value) (h : mHeap) : Prop :=
  ∀ (p : Program) (l : Launch) (e : Env) (R : Room) (s : State) (m : MethodId) (args : Array Value) (below : List Frame) (meth : Method) (c : Code) (D : va_G) (ro : Nat → Nat) (A : Nat → Prop) (al0 : mAl) (Q : State → Prop), mCtx J L xs d MC MS p R s m args meth c D ro A → mHd J MC MS Post p l e R s m args below meth c D ro A al0 Q →
  ∀ (al : mAl) (ws : va_W) (H : Heap) (locs : List Loc) (ls : Array Slot) (sC : List Value), mExt al0 al → mDyn ro A s D al ws H locs h → mLv ro al J.2.2.1 ls lv → mL ro al st sC → W p l e R s m args below meth c H locs cn sn Q (F0 m pc ls sC)
/-- a method's contract in the small machine -/
def mMet (J : mM) (L : Nat) (xs : Nat → Int32) (d : Nat × Nat) (mc ms : Nat) (As : List Value) (h : mHeap) (Post : Option Value → mHeap → Prop) : Prop :=
  ∀ (l : Launch) (D : va_G) (ro : Nat → Nat) (al : mAl) (ws : va_W) (AC : List Value) (sz : Nat), mL ro al As AC →
  Met l J.1 (mWs J) (mRm d mc ms) (va_Pc AC (fun U => U.heap.size = sz ∧ va_P D vwCl ws U.heap ∧ va_D (fun _ => True) ws ∧ mWd U ro al h ws ∧ (va_K D vwCl [] U ∧ mNs U) ∧ mRo ro L xs (va_A ws sz) U U.heap))
    (fun _ st oc t => (∃ (r rC : Option Value) (h' : mHeap) (al' : mAl) (ws' : va_W), oc = .returned rC ∧ mO ro al' r rC ∧ mExt al al' ∧ Post r h' ∧ va_P D vwCl ws' t.heap ∧ va_D (va_A ws sz) ws' ∧ mWd t ro al' h' ws') ∧ va_F (va_A ws sz) st t) mc ms (va_A ws sz)
/-- locals at a method's entry -/
def mEn : List Value → List (Option Value)
  | [] => []
  | v :: vs => if v.category = 2 then some v :: none :: mEn vs else some v :: mEn vs
section MJ1
variable {J : mM} {L : Nat} {xs : Nat → Int32} {d : Nat × Nat} {MC MS : Nat} {Post : Option Value → mHeap → Prop} {cn sn pc : Nat} {lv : List (Option Value)} {st : List Value} {h : mHeap}
theorem mj_iconst {n : Int} (hd : decode J.2.1 pc = .ok (.iconst n, 1)) (v : Int32) (hn : Int32.ofInt n = v) (k : mGo J L xs d MC MS Post cn sn (pc + 1) lv (.int v :: st) h) : mGo J L xs d MC MS Post cn sn pc lv st h := by
  intro p l e R s m args below meth c D ro A al0 Q C hh al ws H locs ls sC hx hY hv hs
  exact lv_iconst C.1 C.2.1 hd hn (k p l e R s m args below meth c D ro A al0 Q C hh al ws H locs ls _ hx hY hv ⟨rfl, hs⟩)
theorem mj_bipush {n : Int} (hd : decode J.2.1 pc = .ok (.bipush n, 2)) (v : Int32) (hn : (Int8.ofInt n).toInt32 = v) (k : mGo J L xs d MC MS Post cn sn (pc + 2) lv (.int v :: st) h) : mGo J L xs d MC MS Post cn sn pc lv st h := by
  intro p l e R s m args below meth c D ro A al0 Q C hh al ws H locs ls sC hx hY hv hs
  exact lv_bipush C.1 C.2.1 hd hn (k p l e R s m args below meth c D ro A al0 Q C hh al ws H locs ls _ hx hY hv ⟨rfl, hs⟩)
theorem mj_sipush {n : Int} (hd : decode J.2.1 pc = .ok (.sipush n, 3)) (v : Int32) (hn : (Int16.ofInt n).toInt32 = v) (k : mGo J L xs d MC MS Post cn sn (pc + 3) lv (.int v :: st) h) : mGo J L xs d MC MS Post cn sn pc lv st h := by
  intro p l e R s m args below meth c D ro A al0 Q C hh al ws H locs ls sC hx hY hv hs
  exact lv_sipush C.1 C.2.1 hd hn (k p l e R s m args below meth c D ro A al0 Q C hh al ws H locs ls _ hx hY hv ⟨rfl, hs⟩)
theorem mj_lconst {n : Fin 2} (hd : decode J.2.1 pc = .ok (.lconst n, 1)) (v : Int64) (hn : Int64.ofNat (n : Nat) = v) (k : mGo J L xs d MC MS Post cn sn (pc + 1) lv (.long v :: st) h) : mGo J L xs d MC MS Post cn sn pc lv st h := by
  intro p l e R s m args below meth c D ro A al0 Q C hh al ws H locs ls sC hx hY hv hs
  exact lv_lconst C.1 C.2.1 hd hn (k p l e R s m args below meth c D ro A al0 Q C hh al ws H locs ls _ hx hY hv ⟨rfl, hs⟩)
theorem mj_ldc {i : Nat} (hd : decode J.2.1 pc = .ok (.ldc i, 2)) (v : Int32) (hw : Cond.constant J.1.cls i v ∈ mWS) (k : mGo J L xs d MC MS Post cn sn (pc + 2) lv (.int v :: st) h) : mGo J L xs d MC MS Post cn sn pc lv st h := by
  intro p l e R s m args below meth c D ro A al0 Q C hh al ws H locs ls sC hx hY hv hs
  exact lv_ldc C.1 C.2.1 C.2.2.2.2.1 (C.2.2.2.2.2.1 _ hw) hd (k p l e R s m args below meth c D ro A al0 Q C hh al ws H locs ls _ hx hY hv ⟨rfl, hs⟩)
theorem mj_ldc2 {i : Nat} (hd : decode J.2.1 pc = .ok (.ldc2_w i, 3)) (v : Int64) (hw : Cond.constantLong J.1.cls i v ∈ mWS) (k : mGo J L xs d MC MS Post cn sn (pc + 3) lv (.long v :: st) h) : mGo J L xs d MC MS Post cn sn pc lv st h := by
  intro p l e R s m args below meth c D ro A al0 Q C hh al ws H locs ls sC hx hY hv hs
  exact lv_ldc2 C.1 C.2.1 C.2.2.2.2.1 (C.2.2.2.2.2.1 _ hw) hd (k p l e R s m args below meth c D ro A al0 Q C hh al ws H locs ls _ hx hY hv ⟨rfl, hs⟩)
theorem mj_iload_n {i : Fin 4} {x : Int32} (hd : decode J.2.1 pc = .ok (.iload_n i, 1)) (hl : lv[(i : Nat)]? = some (some (.int x))) (k : mGo J L xs d MC MS Post cn sn (pc + 1) lv (.int x :: st) h) : mGo J L xs d MC MS Post cn sn pc lv st h := by
  intro p l e R s m args below meth c D ro A al0 Q C hh al ws H locs ls sC hx hY hv hs
  obtain ⟨w, h1, h2⟩ := mLv_at hv hl
  cases h1
  exact lv_iload_n C.1 C.2.1 hd rfl h2 (k p l e R s m args below meth c D ro A al0 Q C hh al ws H locs ls _ hx hY hv ⟨rfl, hs⟩)
theorem mj_iload {i : Nat} {x : Int32} (hd : decode J.2.1 pc = .ok (.iload i, 2)) (hl : lv[i]? = some (some (.int x))) (k : mGo J L xs d MC MS Post cn sn (pc + 2) lv (.int x :: st) h) : mGo J L xs d MC MS Post cn sn pc lv st h := by
  intro p l e R s m args below meth c D ro A al0 Q C hh al ws H locs ls sC hx hY hv hs
  obtain ⟨w, h1, h2⟩ := mLv_at hv hl
  cases h1
  exact lv_iload C.1 C.2.1 hd h2 (k p l e R s m args below meth c D ro A al0 Q C hh al ws H locs ls _ hx hY hv ⟨rfl, hs⟩)
theorem mj_lload_n {i : Fin 4} {x : Int64} (hd : decode J.2.1 pc = .ok (.lload_n i, 1)) (hl : lv[(i : Nat)]? = some (some (.long x))) (k : mGo J L xs d MC MS Post cn sn (pc + 1) lv (.long x :: st) h) : mGo J L xs d MC MS Post cn sn pc lv st h := by
  intro p l e R s m args below meth c D ro A al0 Q C hh al ws H locs ls sC hx hY hv hs
  obtain ⟨w, h1, h2⟩ := mLv_at hv hl
  cases h1
  exact lv_lload_n C.1 C.2.1 hd rfl h2 (k p l e R s m args below meth c D ro A al0 Q C hh al ws H locs ls _ hx hY hv ⟨rfl, hs⟩)
theorem mj_lload {i : Nat} {x : Int64} (hd : decode J.2.1 pc = .ok (.lload i, 2)) (hl : lv[i]? = some (some (.long x))) (k : mGo J L xs d MC MS Post cn sn (pc + 2) lv (.long x :: st) h) : mGo J L xs d MC MS Post cn sn pc lv st h := by
  intro p l e R s m args below meth c D ro A al0 Q C hh al ws H locs ls sC hx hY hv hs
  obtain ⟨w, h1, h2⟩ := mLv_at hv hl
  cases h1
  exact lv_lload C.1 C.2.1 hd h2 (k p l e R s m args below meth c D ro A al0 Q C hh al ws H locs ls _ hx hY hv ⟨rfl, hs⟩)
theorem mj_aload_n {i : Fin 4} {x : Nat} (hd : decode J.2.1 pc = .ok (.aload_n i, 1)) (hl : lv[(i : Nat)]? = some (some (.ref x))) (k : mGo J L xs d MC MS Post cn sn (pc + 1) lv (.ref x :: st) h) : mGo J L xs d MC MS Post cn sn pc lv st h := by
  intro p l e R s m args below meth c D ro A al0 Q C hh al ws H locs ls sC hx hY hv hs
  obtain ⟨w, h1, h2⟩ := mLv_at hv hl
  have h3 := h1
  simp only [mF, Option.map_eq_some_iff] at h3
  obtain ⟨q, -, rfl⟩ := h3
  exact lv_aload_n C.1 C.2.1 hd rfl h2 (k p l e R s m args below meth c D ro A al0 Q C hh al ws H locs ls _ hx hY hv ⟨h1, hs⟩)
theorem mj_oload_n {i : Fin 4} {x : Nat} (hd : decode J.2.1 pc = .ok (.aload_n i, 1)) (hl : lv[(i : Nat)]? = some (some (.retAddr x))) (k : mGo J L xs d MC MS Post cn sn (pc + 1) lv (.retAddr x :: st) h) : mGo J L xs d MC MS Post cn sn pc lv st h := by
  intro p l e R s m args below meth c D ro A al0 Q C hh al ws H locs ls sC hx hY hv hs
  obtain ⟨w, h1, h2⟩ := mLv_at hv hl
  cases h1
  exact lv_aload_n C.1 C.2.1 hd rfl h2 (k p l e R s m args below meth c D ro A al0 Q C hh al ws H locs ls _ hx hY hv ⟨rfl, hs⟩)
theorem mj_aload {i : Nat} {x : Nat} (hd : decode J.2.1 pc = .ok (.aload i, 2)) (hl : lv[i]? = some (some (.ref x))) (k : mGo J L xs d MC MS Post cn sn (pc + 2) lv (.ref x :: st) h) : mGo J L xs d MC MS Post cn sn pc lv st h := by
  intro p l e R s m args below meth c D ro A al0 Q C hh al ws H locs ls sC hx hY hv hs
  obtain ⟨w, h1, h2⟩ := mLv_at hv hl
  have h3 := h1
  simp only [mF, Option.map_eq_some_iff] at h3
  obtain ⟨q, -, rfl⟩ := h3
  exact lv_aload C.1 C.2.1 hd h2 (k p l e R s m args below meth c D ro A al0 Q C hh al ws H locs ls _ hx hY hv ⟨h1, hs⟩)
theorem mj_oload {i : Nat} {x : Nat} (hd : decode J.2.1 pc = .ok (.aload i, 2)) (hl : lv[i]? = some (some (.retAddr x))) (k : mGo J L xs d MC MS Post cn sn (pc + 2) lv (.retAddr x :: st) h) : mGo J L xs d MC MS Post cn sn pc lv st h := by
  intro p l e R s m args below meth c D ro A al0 Q C hh al ws H locs ls sC hx hY hv hs
  obtain ⟨w, h1, h2⟩ := mLv_at hv hl
  cases h1
  exact lv_aload C.1 C.2.1 hd h2 (k p l e R s m args below meth c D ro A al0 Q C hh al ws H locs ls _ hx hY hv ⟨rfl, hs⟩)
theorem mj_istore_n {i : Fin 4} {x : Int32} (hd : decode J.2.1 pc = .ok (.istore_n i, 1)) (hi : (i : Nat) < J.2.2.1) (k : mGo J L xs d MC MS Post cn sn (pc + 1) (mSt1 lv (i : Nat) (.int x)) st h) : mGo J L xs d MC MS Post cn sn pc lv (.int x :: st) h := by
  intro p l e R s m args below meth c D ro A al0 Q C hh al ws H locs ls sC hx hY hv hs
  obtain ⟨r, rfl, hs1s⟩ := mL_i hs
  obtain ⟨lc, h1, h2⟩ := mLv_st1 (i := (i : Nat)) (v := .int x) hv rfl hi
  exact lv_istore_n C.1 C.2.1 hd rfl h1 hi rfl (fun ls' h3 => (k p l e R s m args below meth c D ro A al0 Q C hh al ws H locs ls' _ hx hY (h2 ls' h3) hs1s))
theorem mj_lstore_n {i : Fin 4} {x : Int64} (hd : decode J.2.1 pc = .ok (.lstore_n i, 1)) (hi : (i : Nat) + 1 < J.2.2.1) (k : mGo J L xs d MC MS Post cn sn (pc + 1) (mSt2 lv (i : Nat) (.long x)) st h) : mGo J L xs d MC MS Post cn sn pc lv (.long x :: st) h := by
  intro p l e R s m args below meth c D ro A al0 Q C hh al ws H locs ls sC hx hY hv hs
  obtain ⟨r, rfl, hs1s⟩ := mL_l hs
  obtain ⟨lc, h1, h2⟩ := mLv_st2 (i := (i : Nat)) (v := .long x) hv rfl hi
  exact lv_lstore_n C.1 C.2.1 hd rfl h1 hi rfl (fun ls' h3 => (k p l e R s m args below meth c D ro A al0 Q C hh al ws H locs ls' _ hx hY (h2 ls' h3) hs1s))
theorem mj_astore_n {i : Fin 4} {x : Nat} (hd : decode J.2.1 pc = .ok (.astore_n i, 1)) (hi : (i : Nat) < J.2.2.1) (k : mGo J L xs d MC MS Post cn sn (pc + 1) (mSt1 lv (i : Nat) (.ref x)) st h) : mGo J L xs d MC MS Post cn sn pc lv (.ref x :: st) h := by
  intro p l e R s m args below meth c D ro A al0 Q C hh al ws H locs ls sC hx hY hv hs
  obtain ⟨a, c1, r, rfl, ha, hs1s⟩ := mL_r hs
  obtain ⟨lc, h1, h2⟩ := mLv_st1 (i := (i : Nat)) (v := .ref x) (w := .ref a) hv (by simp [mF, ha]) hi
  exact lv_astore_n C.1 C.2.1 hd rfl h1 hi rfl (fun ls' h3 => (k p l e R s m args below meth c D ro A al0 Q C hh al ws H locs ls' _ hx hY (h2 ls' h3) hs1s))
theorem mj_ostore_n {i : Fin 4} {x : Nat} (hd : decode J.2.1 pc = .ok (.astore_n i, 1)) (hi : (i : Nat) < J.2.2.1) (k : mGo J L xs d MC MS Post cn sn (pc + 1) (mSt1 lv (i : Nat) (.retAddr x)) st h) : mGo J L xs d MC MS Post cn sn pc lv (.retAddr x :: st) h := by
  intro p l e R s m args below meth c D ro A al0 Q C hh al ws H locs ls sC hx hY hv hs
  obtain ⟨r, rfl, hs1s⟩ := mL_o hs
  obtain ⟨lc, h1, h2⟩ := mLv_st1 (i := (i : Nat)) (v := .retAddr x) (w := .ref (ro x)) hv rfl hi
  exact lv_astore_n C.1 C.2.1 hd rfl h1 hi rfl (fun ls' h3 => (k p l e R s m args below meth c D ro A al0 Q C hh al ws H locs ls' _ hx hY (h2 ls' h3) hs1s))
theorem mj_istore {i : Nat} {x : Int32} (hd : decode J.2.1 pc = .ok (.istore i, 2)) (hi : i < J.2.2.1) (k : mGo J L xs d MC MS Post cn sn (pc + 2) (mSt1 lv i (.int x)) st h) : mGo J L xs d MC MS Post cn sn pc lv (.int x :: st) h := by
  intro p l e R s m args below meth c D ro A al0 Q C hh al ws H locs ls sC hx hY hv hs
  obtain ⟨r, rfl, hs1s⟩ := mL_i hs
  obtain ⟨lc, h1, h2⟩ := mLv_st1 (i := i) (v := .int x) hv rfl hi
  exact lv_istore C.1 C.2.1 hd h1 hi rfl (fun ls' h3 => (k p l e R s m args below meth c D ro A al0 Q C hh al ws H locs ls' _ hx hY (h2 ls' h3) hs1s))
theorem mj_lstore {i : Nat} {x : Int64} (hd : decode J.2.1 pc = .ok (.lstore i, 2)) (hi : i + 1 < J.2.2.1) (k : mGo J L xs d MC MS Post cn sn (pc + 2) (mSt2 lv i (.long x)) st h) : mGo J L xs d MC MS Post cn sn pc lv (.long x :: st) h := by
  intro p l e R s m args below meth c D ro A al0 Q C hh al ws H locs ls sC hx hY hv hs
  obtain ⟨r, rfl, hs1s⟩ := mL_l hs
  obtain ⟨lc, h1, h2⟩ := mLv_st2 (i := i) (v := .long x) hv rfl hi
  exact lv_lstore C.1 C.2.1 hd h1 hi rfl (fun ls' h3 => (k p l e R s m args below meth c D ro A al0 Q C hh al ws H locs ls' _ hx hY (h2 ls' h3) hs1s))
theorem mj_astore {i : Nat} {x : Nat} (hd : decode J.2.1 pc = .ok (.astore i, 2)) (hi : i < J.2.2.1) (k : mGo J L xs d MC MS Post cn sn (pc + 2) (mSt1 lv i (.ref x)) st h) : mGo J L xs d MC MS Post cn sn pc lv (.ref x :: st) h := by
  intro p l e R s m args below meth c D ro A al0 Q C hh al ws H locs ls sC hx hY hv hs
  obtain ⟨a, c1, r, rfl, ha, hs1s⟩ := mL_r hs
  obtain ⟨lc, h1, h2⟩ := mLv_st1 (i := i) (v := .ref x) (w := .ref a) hv (by simp [mF, ha]) hi
  exact lv_astore C.1 C.2.1 hd h1 hi rfl (fun ls' h3 => (k p l e R s m args below meth c D ro A al0 Q C hh al ws H locs ls' _ hx hY (h2 ls' h3) hs1s))
theorem mj_ostore {i : Nat} {x : Nat} (hd : decode J.2.1 pc = .ok (.astore i, 2)) (hi : i < J.2.2.1) (k : mGo J L xs d MC MS Post cn sn (pc + 2) (mSt1 lv i (.retAddr x)) st h) : mGo J L xs d MC MS Post cn sn pc lv (.retAddr x :: st) h := by
  intro p l e R s m args below meth c D ro A al0 Q C hh al ws H locs ls sC hx hY hv hs
  obtain ⟨r, rfl, hs1s⟩ := mL_o hs
  obtain ⟨lc, h1, h2⟩ := mLv_st1 (i := i) (v := .retAddr x) (w := .ref (ro x)) hv rfl hi
  exact lv_astore C.1 C.2.1 hd h1 hi rfl (fun ls' h3 => (k p l e R s m args below meth c D ro A al0 Q C hh al ws H locs ls' _ hx hY (h2 ls' h3) hs1s))
theorem mj_iinc {i : Nat} {n : Int} {x : Int32} (hd : decode J.2.1 pc = .ok (.iinc i n, 3)) (hl : lv[i]? = some (some (.int x))) (hi : i < J.2.2.1) (v : Int32) (hn : x + Int32.ofInt n = v) (k : mGo J L xs d MC MS Post cn sn (pc + 3) (mSt1 lv i (.int v)) st h) : mGo J L xs d MC MS Post cn sn pc lv st h := by
  intro p l e R s m args below meth c D ro A al0 Q C hh al ws H locs ls sC hx hY hv hs
  obtain ⟨lc0, g1, g2⟩ := hv.2
  obtain ⟨w, h4, h5⟩ := g2 i _ hl
  cases h4
  obtain ⟨lc, h1, h2⟩ : ∃ lc : List (Nat × Value), (i, Value.int x) ∈ lc ∧ lv_has ls J.2.2.1 lc ∧ ∀ ls' : Array Slot, lv_has ls' J.2.2.1 ((i, .int v) :: lc.filter (fun q => !(q.1 == i) && !(q.1 + 1 == i && q.2.category == 2))) → mLv ro al J.2.2.1 ls' (mSt1 lv i (.int v)) := by
    obtain ⟨lc, h1, h2⟩ := mLv_st1 (i := i) (v := .int v) (w := .int v) ⟨hv.1, lc0, g1, g2⟩ rfl hi
    refine ⟨(i, .int x) :: lc, List.mem_cons_self, ⟨h1.1, h1.2.1, fun q hq => ?_⟩, fun ls' h3 => h2 ls' ⟨h3.1, h3.2.1, fun q hq => ?_⟩⟩
    · rcases List.mem_cons.mp hq with rfl | hq
      · exact g1.2.2 _ h5
      · exact h1.2.2 q hq
    · rcases List.mem_cons.mp hq with rfl | hq
      · exact h3.2.2 _ List.mem_cons_self
      · exact h3.2.2 q (List.mem_cons_of_mem _ (List.mem_filter.mpr ⟨List.mem_cons_of_mem _ (List.mem_filter.mp hq).1, (List.mem_filter.mp hq).2⟩))
  obtain ⟨kk, hkk⟩ := List.getElem?_of_mem h1
  exact lv_iinc C.1 C.2.1 hd h2.1 hkk hn hi rfl (fun ls' h3 => (k p l e R s m args below meth c D ro A al0 Q C hh al ws H locs ls' _ hx hY (h2.2 ls' h3) hs))
theorem mj_iadd {x y : Int32} (hd : decode J.2.1 pc = .ok (.iadd, 1)) (k : mGo J L xs d MC MS Post cn sn (pc + 1) lv (.int (x + y) :: st) h) : mGo J L xs d MC MS Post cn sn pc lv (.int y :: .int x :: st) h := by
  intro p l e R s m args below meth c D ro A al0 Q C hh al ws H locs ls sC hx hY hv hs
  obtain ⟨r1, rfl, hs1s⟩ := mL_i hs
  obtain ⟨r, rfl, hs2s⟩ := mL_i hs1s
  exact lv_iadd C.1 C.2.1 hd (k p l e R s m args below meth c D ro A al0 Q C hh al ws H locs ls _ hx hY hv ⟨rfl, hs2s⟩)
theorem mj_isub {x y : Int32} (hd : decode J.2.1 pc = .ok (.isub, 1)) (k : mGo J L xs d MC MS Post cn sn (pc + 1) lv (.int (x - y) :: st) h) : mGo J L xs d MC MS Post cn sn pc lv (.int y :: .int x :: st) h := by
  intro p l e R s m args below meth c D ro A al0 Q C hh al ws H locs ls sC hx hY hv hs
  obtain ⟨r1, rfl, hs1s⟩ := mL_i hs
  obtain ⟨r, rfl, hs2s⟩ := mL_i hs1s
  exact lv_isub C.1 C.2.1 hd (k p l e R s m args below meth c D ro A al0 Q C hh al ws H locs ls _ hx hY hv ⟨rfl, hs2s⟩)
theorem mj_imul {x y : Int32} (hd : decode J.2.1 pc = .ok (.imul, 1)) (k : mGo J L xs d MC MS Post cn sn (pc + 1) lv (.int (x * y) :: st) h) : mGo J L xs d MC MS Post cn sn pc lv (.int y :: .int x :: st) h := by
  intro p l e R s m args below meth c D ro A al0 Q C hh al ws H locs ls sC hx hY hv hs
  obtain ⟨r1, rfl, hs1s⟩ := mL_i hs
  obtain ⟨r, rfl, hs2s⟩ := mL_i hs1s
  exact lv_imul C.1 C.2.1 hd (k p l e R s m args below meth c D ro A al0 Q C hh al ws H locs ls _ hx hY hv ⟨rfl, hs2s⟩)
theorem mj_iand {x y : Int32} (hd : decode J.2.1 pc = .ok (.iand, 1)) (k : mGo J L xs d MC MS Post cn sn (pc + 1) lv (.int (x &&& y) :: st) h) : mGo J L xs d MC MS Post cn sn pc lv (.int y :: .int x :: st) h := by
  intro p l e R s m args below meth c D ro A al0 Q C hh al ws H locs ls sC hx hY hv hs
  obtain ⟨r1, rfl, hs1s⟩ := mL_i hs
  obtain ⟨r, rfl, hs2s⟩ := mL_i hs1s
  exact lv_iand C.1 C.2.1 hd (k p l e R s m args below meth c D ro A al0 Q C hh al ws H locs ls _ hx hY hv ⟨rfl, hs2s⟩)
theorem mj_ior {x y : Int32} (hd : decode J.2.1 pc = .ok (.ior, 1)) (k : mGo J L xs d MC MS Post cn sn (pc + 1) lv (.int (x ||| y) :: st) h) : mGo J L xs d MC MS Post cn sn pc lv (.int y :: .int x :: st) h := by
  intro p l e R s m args below meth c D ro A al0 Q C hh al ws H locs ls sC hx hY hv hs
  obtain ⟨r1, rfl, hs1s⟩ := mL_i hs
  obtain ⟨r, rfl, hs2s⟩ := mL_i hs1s
  exact lv_ior C.1 C.2.1 hd (k p l e R s m args below meth c D ro A al0 Q C hh al ws H locs ls _ hx hY hv ⟨rfl, hs2s⟩)
theorem mj_ixor {x y : Int32} (hd : decode J.2.1 pc = .ok (.ixor, 1)) (k : mGo J L xs d MC MS Post cn sn (pc + 1) lv (.int (x ^^^ y) :: st) h) : mGo J L xs d MC MS Post cn sn pc lv (.int y :: .int x :: st) h := by
  intro p l e R s m args below meth c D ro A al0 Q C hh al ws H locs ls sC hx hY hv hs
  obtain ⟨r1, rfl, hs1s⟩ := mL_i hs
  obtain ⟨r, rfl, hs2s⟩ := mL_i hs1s
  exact lv_ixor C.1 C.2.1 hd (k p l e R s m args below meth c D ro A al0 Q C hh al ws H locs ls _ hx hY hv ⟨rfl, hs2s⟩)
theorem mj_ishl {x y : Int32} (hd : decode J.2.1 pc = .ok (.ishl, 1)) (k : mGo J L xs d MC MS Post cn sn (pc + 1) lv (.int (x <<< (y &&& 31)) :: st) h) : mGo J L xs d MC MS Post cn sn pc lv (.int y :: .int x :: st) h := by
  intro p l e R s m args below meth c D ro A al0 Q C hh al ws H locs ls sC hx hY hv hs
  obtain ⟨r1, rfl, hs1s⟩ := mL_i hs
  obtain ⟨r, rfl, hs2s⟩ := mL_i hs1s
  exact lv_ishl C.1 C.2.1 hd (k p l e R s m args below meth c D ro A al0 Q C hh al ws H locs ls _ hx hY hv ⟨rfl, hs2s⟩)
theorem mj_ishr {x y : Int32} (hd : decode J.2.1 pc = .ok (.ishr, 1)) (k : mGo J L xs d MC MS Post cn sn (pc + 1) lv (.int (x >>> (y &&& 31)) :: st) h) : mGo J L xs d MC MS Post cn sn pc lv (.int y :: .int x :: st) h := by
  intro p l e R s m args below meth c D ro A al0 Q C hh al ws H locs ls sC hx hY hv hs
  obtain ⟨r1, rfl, hs1s⟩ := mL_i hs
  obtain ⟨r, rfl, hs2s⟩ := mL_i hs1s
  exact lv_ishr C.1 C.2.1 hd (k p l e R s m args below meth c D ro A al0 Q C hh al ws H locs ls _ hx hY hv ⟨rfl, hs2s⟩)
theorem mj_iushr {x y : Int32} (hd : decode J.2.1 pc = .ok (.iushr, 1)) (k : mGo J L xs d MC MS Post cn sn (pc + 1) lv (.int ((x.toUInt32 >>> (y.toUInt32 &&& Int32.toUInt32 31)).toInt32) :: st) h) : mGo J L xs d MC MS Post cn sn pc lv (.int y :: .int x :: st) h := by
  intro p l e R s m args below meth c D ro A al0 Q C hh al ws H locs ls sC hx hY hv hs
  obtain ⟨r1, rfl, hs1s⟩ := mL_i hs
  obtain ⟨r, rfl, hs2s⟩ := mL_i hs1s
  exact lv_iushr C.1 C.2.1 hd rfl (k p l e R s m args below meth c D ro A al0 Q C hh al ws H locs ls _ hx hY hv ⟨rfl, hs2s⟩)
theorem mj_idiv {x y : Int32} (hd : decode J.2.1 pc = .ok (.idiv, 1)) (hy : ¬ y = 0) (k : mGo J L xs d MC MS Post cn sn (pc + 1) lv (.int (x / y) :: st) h) : mGo J L xs d MC MS Post cn sn pc lv (.int y :: .int x :: st) h := by
  intro p l e R s m args below meth c D ro A al0 Q C hh al ws H locs ls sC hx hY hv hs
  obtain ⟨r1, rfl, hs1s⟩ := mL_i hs
  obtain ⟨r, rfl, hs2s⟩ := mL_i hs1s
  exact lv_idiv C.1 C.2.1 hd hy (k p l e R s m args below meth c D ro A al0 Q C hh al ws H locs ls _ hx hY hv ⟨rfl, hs2s⟩)
theorem mj_irem {x y : Int32} (hd : decode J.2.1 pc = .ok (.irem, 1)) (hy : ¬ y = 0) (k : mGo J L xs d MC MS Post cn sn (pc + 1) lv (.int (x - x / y * y) :: st) h) : mGo J L xs d MC MS Post cn sn pc lv (.int y :: .int x :: st) h := by
  intro p l e R s m args below meth c D ro A al0 Q C hh al ws H locs ls sC hx hY hv hs
  obtain ⟨r1, rfl, hs1s⟩ := mL_i hs
  obtain ⟨r, rfl, hs2s⟩ := mL_i hs1s
  exact lv_irem C.1 C.2.1 hd hy (k p l e R s m args below meth c D ro A al0 Q C hh al ws H locs ls _ hx hY hv ⟨rfl, hs2s⟩)
theorem mj_ineg {x : Int32} (hd : decode J.2.1 pc = .ok (.ineg, 1)) (k : mGo J L xs d MC MS Post cn sn (pc + 1) lv (.int (-x) :: st) h) : mGo J L xs d MC MS Post cn sn pc lv (.int x :: st) h := by
  intro p l e R s m args below meth c D ro A al0 Q C hh al ws H locs ls sC hx hY hv hs
  obtain ⟨r, rfl, hs1s⟩ := mL_i hs
  exact lv_ineg C.1 C.2.1 hd (k p l e R s m args below meth c D ro A al0 Q C hh al ws H locs ls _ hx hY hv ⟨rfl, hs1s⟩)
theorem mj_ladd {x y : Int64} (hd : decode J.2.1 pc = .ok (.ladd, 1)) (k : mGo J L xs d MC MS Post cn sn (pc + 1) lv (.long (x + y) :: st) h) : mGo J L xs d MC MS Post cn sn pc lv (.long y :: .long x :: st) h := by
  intro p l e R s m args below meth c D ro A al0 Q C hh al ws H locs ls sC hx hY hv hs
  obtain ⟨r1, rfl, hs1s⟩ := mL_l hs
  obtain ⟨r, rfl, hs2s⟩ := mL_l hs1s
  exact lv_ladd C.1 C.2.1 hd (k p l e R s m args below meth c D ro A al0 Q C hh al ws H locs ls _ hx hY hv ⟨rfl, hs2s⟩)
theorem mj_lsub {x y : Int64} (hd : decode J.2.1 pc = .ok (.lsub, 1)) (k : mGo J L xs d MC MS Post cn sn (pc + 1) lv (.long (x - y) :: st) h) : mGo J L xs d MC MS Post cn sn pc lv (.long y :: .long x :: st) h := by
  intro p l e R s m args below meth c D ro A al0 Q C hh al ws H locs ls sC hx hY hv hs
  obtain ⟨r1, rfl, hs1s⟩ := mL_l hs
  obtain ⟨r, rfl, hs2s⟩ := mL_l hs1s
  exact lv_lsub C.1 C.2.1 hd (k p l e R s m args below meth c D ro A al0 Q C hh al ws H locs ls _ hx hY hv ⟨rfl, hs2s⟩)
theorem mj_lmul {x y : Int64} (hd : decode J.2.1 pc = .ok (.lmul, 1)) (k : mGo J L xs d MC MS Post cn sn (pc + 1) lv (.long (x * y) :: st) h) : mGo J L xs d MC MS Post cn sn pc lv (.long y :: .long x :: st) h := by
  intro p l e R s m args below meth c D ro A al0 Q C hh al ws H locs ls sC hx hY hv hs
  obtain ⟨r1, rfl, hs1s⟩ := mL_l hs
  obtain ⟨r, rfl, hs2s⟩ := mL_l hs1s
  exact lv_lmul C.1 C.2.1 hd (k p l e R s m args below meth c D ro A al0 Q C hh al ws H locs ls _ hx hY hv ⟨rfl, hs2s⟩)
theorem mj_land {x y : Int64} (hd : decode J.2.1 pc = .ok (.land, 1)) (k : mGo J L xs d MC MS Post cn sn (pc + 1) lv (.long (x &&& y) :: st) h) : mGo J L xs d MC MS Post cn sn pc lv (.long y :: .long x :: st) h := by
  intro p l e R s m args below meth c D ro A al0 Q C hh al ws H locs ls sC hx hY hv hs
  obtain ⟨r1, rfl, hs1s⟩ := mL_l hs
  obtain ⟨r, rfl, hs2s⟩ := mL_l hs1s
  exact lv_land C.1 C.2.1 hd (k p l e R s m args below meth c D ro A al0 Q C hh al ws H locs ls _ hx hY hv ⟨rfl, hs2s⟩)
theorem mj_lor {x y : Int64} (hd : decode J.2.1 pc = .ok (.lor, 1)) (k : mGo J L xs d MC MS Post cn sn (pc + 1) lv (.long (x ||| y) :: st) h) : mGo J L xs d MC MS Post cn sn pc lv (.long y :: .long x :: st) h := by
  intro p l e R s m args below meth c D ro A al0 Q C hh al ws H locs ls sC hx hY hv hs
  obtain ⟨r1, rfl, hs1s⟩ := mL_l hs
  obtain ⟨r, rfl, hs2s⟩ := mL_l hs1s
  exact lv_lor C.1 C.2.1 hd (k p l e R s m args below meth c D ro A al0 Q C hh al ws H locs ls _ hx hY hv ⟨rfl, hs2s⟩)
theorem mj_lxor {x y : Int64} (hd : decode J.2.1 pc = .ok (.lxor, 1)) (k : mGo J L xs d MC MS Post cn sn (pc + 1) lv (.long (x ^^^ y) :: st) h) : mGo J L xs d MC MS Post cn sn pc lv (.long y :: .long x :: st) h := by
  intro p l e R s m args below meth c D ro A al0 Q C hh al ws H locs ls sC hx hY hv hs
  obtain ⟨r1, rfl, hs1s⟩ := mL_l hs
  obtain ⟨r, rfl, hs2s⟩ := mL_l hs1s
  exact lv_lxor C.1 C.2.1 hd (k p l e R s m args below meth c D ro A al0 Q C hh al ws H locs ls _ hx hY hv ⟨rfl, hs2s⟩)
theorem mj_ldiv {x y : Int64} (hd : decode J.2.1 pc = .ok (.ldiv, 1)) (hy : ¬ y = 0) (k : mGo J L xs d MC MS Post cn sn (pc + 1) lv (.long (x / y) :: st) h) : mGo J L xs d MC MS Post cn sn pc lv (.long y :: .long x :: st) h := by
  intro p l e R s m args below meth c D ro A al0 Q C hh al ws H locs ls sC hx hY hv hs
  obtain ⟨r1, rfl, hs1s⟩ := mL_l hs
  obtain ⟨r, rfl, hs2s⟩ := mL_l hs1s
  exact lv_ldiv C.1 C.2.1 hd hy (k p l e R s m args below meth c D ro A al0 Q C hh al ws H locs ls _ hx hY hv ⟨rfl, hs2s⟩)
theorem mj_lrem {x y : Int64} (hd : decode J.2.1 pc = .ok (.lrem, 1)) (hy : ¬ y = 0) (k : mGo J L xs d MC MS Post cn sn (pc + 1) lv (.long (x - x / y * y) :: st) h) : mGo J L xs d MC MS Post cn sn pc lv (.long y :: .long x :: st) h := by
  intro p l e R s m args below meth c D ro A al0 Q C hh al ws H locs ls sC hx hY hv hs
  obtain ⟨r1, rfl, hs1s⟩ := mL_l hs
  obtain ⟨r, rfl, hs2s⟩ := mL_l hs1s
  exact lv_lrem C.1 C.2.1 hd hy (k p l e R s m args below meth c D ro A al0 Q C hh al ws H locs ls _ hx hY hv ⟨rfl, hs2s⟩)
theorem mj_lshl {x : Int64} {y : Int32} (hd : decode J.2.1 pc = .ok (.lshl, 1)) (k : mGo J L xs d MC MS Post cn sn (pc + 1) lv (.long (x <<< (y.toInt64 &&& 63)) :: st) h) : mGo J L xs d MC MS Post cn sn pc lv (.int y :: .long x :: st) h := by
  intro p l e R s m args below meth c D ro A al0 Q C hh al ws H locs ls sC hx hY hv hs
  obtain ⟨r1, rfl, hs1s⟩ := mL_i hs
  obtain ⟨r, rfl, hs2s⟩ := mL_l hs1s
  exact lv_lshl C.1 C.2.1 hd rfl (k p l e R s m args below meth c D ro A al0 Q C hh al ws H locs ls _ hx hY hv ⟨rfl, hs2s⟩)
theorem mj_lshr {x : Int64} {y : Int32} (hd : decode J.2.1 pc = .ok (.lshr, 1)) (k : mGo J L xs d MC MS Post cn sn (pc + 1) lv (.long (x >>> (y.toInt64 &&& 63)) :: st) h) : mGo J L xs d MC MS Post cn sn pc lv (.int y :: .long x :: st) h := by
  intro p l e R s m args below meth c D ro A al0 Q C hh al ws H locs ls sC hx hY hv hs
  obtain ⟨r1, rfl, hs1s⟩ := mL_i hs
  obtain ⟨r, rfl, hs2s⟩ := mL_l hs1s
  exact lv_lshr C.1 C.2.1 hd rfl (k p l e R s m args below meth c D ro A al0 Q C hh al ws H locs ls _ hx hY hv ⟨rfl, hs2s⟩)
theorem mj_lushr {x : Int64} {y : Int32} (hd : decode J.2.1 pc = .ok (.lushr, 1)) (k : mGo J L xs d MC MS Post cn sn (pc + 1) lv (.long ((x.toUInt64 >>> (y.toInt64.toUInt64 &&& Int64.toUInt64 63)).toInt64) :: st) h) : mGo J L xs d MC MS Post cn sn pc lv (.int y :: .long x :: st) h := by
  intro p l e R s m args below meth c D ro A al0 Q C hh al ws H locs ls sC hx hY hv hs
  obtain ⟨r1, rfl, hs1s⟩ := mL_i hs
  obtain ⟨r, rfl, hs2s⟩ := mL_l hs1s
  exact lv_lushr C.1 C.2.1 hd rfl (k p l e R s m args below meth c D ro A al0 Q C hh al ws H locs ls _ hx hY hv ⟨rfl, hs2s⟩)
theorem mj_lcmp {x y : Int64} (hd : decode J.2.1 pc = .ok (.lcmp, 1)) (k : mGo J L xs d MC MS Post cn sn (pc + 1) lv (.int (lg_cmp x y) :: st) h) : mGo J L xs d MC MS Post cn sn pc lv (.long y :: .long x :: st) h := by
  intro p l e R s m args below meth c D ro A al0 Q C hh al ws H locs ls sC hx hY hv hs
  obtain ⟨r1, rfl, hs1s⟩ := mL_l hs
  obtain ⟨r, rfl, hs2s⟩ := mL_l hs1s
  exact W.lcmp C.1 C.2.1 hd (k p l e R s m args below meth c D ro A al0 Q C hh al ws H locs ls _ hx hY hv ⟨rfl, hs2s⟩)
theorem mj_i2l {x : Int32} (hd : decode J.2.1 pc = .ok (.i2l, 1)) (k : mGo J L xs d MC MS Post cn sn (pc + 1) lv (.long (x.toInt64) :: st) h) : mGo J L xs d MC MS Post cn sn pc lv (.int x :: st) h := by
  intro p l e R s m args below meth c D ro A al0 Q C hh al ws H locs ls sC hx hY hv hs
  obtain ⟨r, rfl, hs1s⟩ := mL_i hs
  exact lv_i2l C.1 C.2.1 hd rfl (k p l e R s m args below meth c D ro A al0 Q C hh al ws H locs ls _ hx hY hv ⟨rfl, hs1s⟩)
theorem mj_l2i {x : Int64} (hd : decode J.2.1 pc = .ok (.l2i, 1)) (k : mGo J L xs d MC MS Post cn sn (pc + 1) lv (.int (x.toInt32) :: st) h) : mGo J L xs d MC MS Post cn sn pc lv (.long x :: st) h := by
  intro p l e R s m args below meth c D ro A al0 Q C hh al ws H locs ls sC hx hY hv hs
  obtain ⟨r, rfl, hs1s⟩ := mL_l hs
  exact lv_l2i C.1 C.2.1 hd rfl (k p l e R s m args below meth c D ro A al0 Q C hh al ws H locs ls _ hx hY hv ⟨rfl, hs1s⟩)
theorem mj_i2b {x : Int32} (hd : decode J.2.1 pc = .ok (.i2b, 1)) (k : mGo J L xs d MC MS Post cn sn (pc + 1) lv (.int (x.toInt8.toInt32) :: st) h) : mGo J L xs d MC MS Post cn sn pc lv (.int x :: st) h := by
  intro p l e R s m args below meth c D ro A al0 Q C hh al ws H locs ls sC hx hY hv hs
  obtain ⟨r, rfl, hs1s⟩ := mL_i hs
  exact lv_i2b C.1 C.2.1 hd rfl (k p l e R s m args below meth c D ro A al0 Q C hh al ws H locs ls _ hx hY hv ⟨rfl, hs1s⟩)
theorem mj_i2s {x : Int32} (hd : decode J.2.1 pc = .ok (.i2s, 1)) (k : mGo J L xs d MC MS Post cn sn (pc + 1) lv (.int (x.toInt16.toInt32) :: st) h) : mGo J L xs d MC MS Post cn sn pc lv (.int x :: st) h := by
  intro p l e R s m args below meth c D ro A al0 Q C hh al ws H locs ls sC hx hY hv hs
  obtain ⟨r, rfl, hs1s⟩ := mL_i hs
  exact lv_i2s C.1 C.2.1 hd rfl (k p l e R s m args below meth c D ro A al0 Q C hh al ws H locs ls _ hx hY hv ⟨rfl, hs1s⟩)
theorem mj_i2c {x : Int32} (hd : decode J.2.1 pc = .ok (.i2c, 1)) (k : mGo J L xs d MC MS Post cn sn (pc + 1) lv (.int ((x.toUInt32 % 65536).toInt32) :: st) h) : mGo J L xs d MC MS Post cn sn pc lv (.int x :: st) h := by
  intro p l e R s m args below meth c D ro A al0 Q C hh al ws H locs ls sC hx hY hv hs
  obtain ⟨r, rfl, hs1s⟩ := mL_i hs
  exact lv_i2c C.1 C.2.1 hd rfl (k p l e R s m args below meth c D ro A al0 Q C hh al ws H locs ls _ hx hY hv ⟨rfl, hs1s⟩)
theorem mj_dup {v : Value} (hd : decode J.2.1 pc = .ok (.dup, 1)) (hc : v.category = 1) (k : mGo J L xs d MC MS Post cn sn (pc + 1) lv (v :: v :: st) h) : mGo J L xs d MC MS Post cn sn pc lv (v :: st) h := by
  intro p l e R s m args below meth c D ro A al0 Q C hh al ws H locs ls sC hx hY hv hs
  obtain ⟨w, r, rfl, h1, hs1s⟩ := mL_c hs
  exact lv_dup C.1 C.2.1 hd ((mF_cat h1).trans hc) (k p l e R s m args below meth c D ro A al0 Q C hh al ws H locs ls _ hx hY hv ⟨h1, h1, hs1s⟩)
theorem mj_pop {v : Value} (hd : decode J.2.1 pc = .ok (.pop, 1)) (hc : v.category = 1) (k : mGo J L xs d MC MS Post cn sn (pc + 1) lv st h) : mGo J L xs d MC MS Post cn sn pc lv (v :: st) h := by
  intro p l e R s m args below meth c D ro A al0 Q C hh al ws H locs ls sC hx hY hv hs
  obtain ⟨w, r, rfl, h1, hs1s⟩ := mL_c hs
  exact lv_pop C.1 C.2.1 hd ((mF_cat h1).trans hc) (k p l e R s m args below meth c D ro A al0 Q C hh al ws H locs ls _ hx hY hv hs1s)
theorem mj_dup_x1 {v u : Value} (hd : decode J.2.1 pc = .ok (.dup_x1, 1)) (hc : v.category = 1) (hc2 : u.category = 1) (k : mGo J L xs d MC MS Post cn sn (pc + 1) lv (v :: u :: v :: st) h) : mGo J L xs d MC MS Post cn sn pc lv (v :: u :: st) h := by
  intro p l e R s m args below meth c D ro A al0 Q C hh al ws H locs ls sC hx hY hv hs
  obtain ⟨w, r1, rfl, h1, hs1s⟩ := mL_c hs
  obtain ⟨w2, r, rfl, h2, hs2s⟩ := mL_c hs1s
  exact lv_dup_x1 C.1 C.2.1 hd ((mF_cat h1).trans hc) ((mF_cat h2).trans hc2) (k p l e R s m args below meth c D ro A al0 Q C hh al ws H locs ls _ hx hY hv ⟨h1, h2, h1, hs2s⟩)
theorem mj_dup2 {v u : Value} (hd : decode J.2.1 pc = .ok (.dup2, 1)) (hc : v.category = 1) (hc2 : u.category = 1) (k : mGo J L xs d MC MS Post cn sn (pc + 1) lv (v :: u :: v :: u :: st) h) : mGo J L xs d MC MS Post cn sn pc lv (v :: u :: st) h := by
  intro p l e R s m args below meth c D ro A al0 Q C hh al ws H locs ls sC hx hY hv hs
  obtain ⟨w, r1, rfl, h1, hs1s⟩ := mL_c hs
  obtain ⟨w2, r, rfl, h2, hs2s⟩ := mL_c hs1s
  exact lv_dup2_11 C.1 C.2.1 hd ((mF_cat h1).trans hc) ((mF_cat h2).trans hc2) (k p l e R s m args below meth c D ro A al0 Q C hh al ws H locs ls _ hx hY hv ⟨h1, h2, h1, h2, hs2s⟩)
theorem mj_dup2_2 {v : Value} (hd : decode J.2.1 pc = .ok (.dup2, 1)) (hc : v.category = 2) (k : mGo J L xs d MC MS Post cn sn (pc + 1) lv (v :: v :: st) h) : mGo J L xs d MC MS Post cn sn pc lv (v :: st) h := by
  intro p l e R s m args below meth c D ro A al0 Q C hh al ws H locs ls sC hx hY hv hs
  obtain ⟨w, r, rfl, h1, hs1s⟩ := mL_c hs
  exact lv_dup2_2 C.1 C.2.1 hd ((mF_cat h1).trans hc) (k p l e R s m args below meth c D ro A al0 Q C hh al ws H locs ls _ hx hY hv ⟨h1, h1, hs1s⟩)
theorem mj_dup_x2 {v u t : Value} (hd : decode J.2.1 pc = .ok (.dup_x2, 1)) (hc : v.category = 1) (hc2 : u.category = 1) (hc3 : t.category = 1) (k : mGo J L xs d MC MS Post cn sn (pc + 1) lv (v :: u :: t :: v :: st) h) : mGo J L xs d MC MS Post cn sn pc lv (v :: u :: t :: st) h := by
  intro p l e R s m args below meth c D ro A al0 Q C hh al ws H locs ls sC hx hY hv hs
  obtain ⟨w, r1, rfl, h1, hs1s⟩ := mL_c hs
  obtain ⟨w2, r2, rfl, h2, hs2s⟩ := mL_c hs1s
  obtain ⟨w3, r, rfl, h3, hs3s⟩ := mL_c hs2s
  exact lv_dup_x2 C.1 C.2.1 hd ((mF_cat h1).trans hc) ((mF_cat h2).trans hc2) ((mF_cat h3).trans hc3) (k p l e R s m args below meth c D ro A al0 Q C hh al ws H locs ls _ hx hY hv ⟨h1, h2, h3, h1, hs3s⟩)
theorem mj_ifeq {x : Int32} {off : Int} (hd : decode J.2.1 pc = .ok (.ifCond .eq off, 3)) (tgt : Nat) (ht : (pc : Int) + off = (tgt : Int)) (kt : x = 0 → mGo J L xs d MC MS Post cn sn tgt lv st h) (kf : ¬ x = 0 → mGo J L xs d MC MS Post cn sn (pc + 3) lv st h) : mGo J L xs d MC MS Post cn sn pc lv (.int x :: st) h := by
  intro p l e R s m args below meth c D ro A al0 Q C hh al ws H locs ls sC hx hY hv hs
  obtain ⟨r, rfl, hs1s⟩ := mL_i hs
  exact lv_if_eq C.1 C.2.1 hd ht (fun z => (kt z p l e R s m args below meth c D ro A al0 Q C hh al ws H locs ls _ hx hY hv hs1s)) (fun z => (kf z p l e R s m args below meth c D ro A al0 Q C hh al ws H locs ls _ hx hY hv hs1s))
theorem mj_ifne {x : Int32} {off : Int} (hd : decode J.2.1 pc = .ok (.ifCond .ne off, 3)) (tgt : Nat) (ht : (pc : Int) + off = (tgt : Int)) (kt : ¬ x = 0 → mGo J L xs d MC MS Post cn sn tgt lv st h) (kf : x = 0 → mGo J L xs d MC MS Post cn sn (pc + 3) lv st h) : mGo J L xs d MC MS Post cn sn pc lv (.int x :: st) h := by
  intro p l e R s m args below meth c D ro A al0 Q C hh al ws H locs ls sC hx hY hv hs
  obtain ⟨r, rfl, hs1s⟩ := mL_i hs
  exact lv_if_ne C.1 C.2.1 hd ht (fun z => (kt z p l e R s m args below meth c D ro A al0 Q C hh al ws H locs ls _ hx hY hv hs1s)) (fun z => (kf z p l e R s m args below meth c D ro A al0 Q C hh al ws H locs ls _ hx hY hv hs1s))
theorem mj_iflt {x : Int32} {off : Int} (hd : decode J.2.1 pc = .ok (.ifCond .lt off, 3)) (tgt : Nat) (ht : (pc : Int) + off = (tgt : Int)) (kt : x < 0 → mGo J L xs d MC MS Post cn sn tgt lv st h) (kf : ¬ x < 0 → mGo J L xs d MC MS Post cn sn (pc + 3) lv st h) : mGo J L xs d MC MS Post cn sn pc lv (.int x :: st) h := by
  intro p l e R s m args below meth c D ro A al0 Q C hh al ws H locs ls sC hx hY hv hs
  obtain ⟨r, rfl, hs1s⟩ := mL_i hs
  exact lv_if_lt C.1 C.2.1 hd ht (fun z => (kt z p l e R s m args below meth c D ro A al0 Q C hh al ws H locs ls _ hx hY hv hs1s)) (fun z => (kf z p l e R s m args below meth c D ro A al0 Q C hh al ws H locs ls _ hx hY hv hs1s))
theorem mj_ifge {x : Int32} {off : Int} (hd : decode J.2.1 pc = .ok (.ifCond .ge off, 3)) (tgt : Nat) (ht : (pc : Int) + off = (tgt : Int)) (kt : 0 ≤ x → mGo J L xs d MC MS Post cn sn tgt lv st h) (kf : ¬ 0 ≤ x → mGo J L xs d MC MS Post cn sn (pc + 3) lv st h) : mGo J L xs d MC MS Post cn sn pc lv (.int x :: st) h := by
  intro p l e R s m args below meth c D ro A al0 Q C hh al ws H locs ls sC hx hY hv hs
  obtain ⟨r, rfl, hs1s⟩ := mL_i hs
  exact lv_if_ge C.1 C.2.1 hd ht (fun z => (kt z p l e R s m args below meth c D ro A al0 Q C hh al ws H locs ls _ hx hY hv hs1s)) (fun z => (kf z p l e R s m args below meth c D ro A al0 Q C hh al ws H locs ls _ hx hY hv hs1s))
theorem mj_ifgt {x : Int32} {off : Int} (hd : decode J.2.1 pc = .ok (.ifCond .gt off, 3)) (tgt : Nat) (ht : (pc : Int) + off = (tgt : Int)) (kt : 0 < x → mGo J L xs d MC MS Post cn sn tgt lv st h) (kf : ¬ 0 < x → mGo J L xs d MC MS Post cn sn (pc + 3) lv st h) : mGo J L xs d MC MS Post cn sn pc lv (.int x :: st) h := by
  intro p l e R s m args below meth c D ro A al0 Q C hh al ws H locs ls sC hx hY hv hs
  obtain ⟨r, rfl, hs1s⟩ := mL_i hs
  exact lv_if_gt C.1 C.2.1 hd ht (fun z => (kt z p l e R s m args below meth c D ro A al0 Q C hh al ws H locs ls _ hx hY hv hs1s)) (fun z => (kf z p l e R s m args below meth c D ro A al0 Q C hh al ws H locs ls _ hx hY hv hs1s))
theorem mj_ifle {x : Int32} {off : Int} (hd : decode J.2.1 pc = .ok (.ifCond .le off, 3)) (tgt : Nat) (ht : (pc : Int) + off = (tgt : Int)) (kt : x ≤ 0 → mGo J L xs d MC MS Post cn sn tgt lv st h) (kf : ¬ x ≤ 0 → mGo J L xs d MC MS Post cn sn (pc + 3) lv st h) : mGo J L xs d MC MS Post cn sn pc lv (.int x :: st) h := by
  intro p l e R s m args below meth c D ro A al0 Q C hh al ws H locs ls sC hx hY hv hs
  obtain ⟨r, rfl, hs1s⟩ := mL_i hs
  exact lv_if_le C.1 C.2.1 hd ht (fun z => (kt z p l e R s m args below meth c D ro A al0 Q C hh al ws H locs ls _ hx hY hv hs1s)) (fun z => (kf z p l e R s m args below meth c D ro A al0 Q C hh al ws H locs ls _ hx hY hv hs1s))
theorem mj_icmpeq {x y : Int32} {off : Int} (hd : decode J.2.1 pc = .ok (.if_icmp .eq off, 3)) (tgt : Nat) (ht : (pc : Int) + off = (tgt : Int)) (kt : x = y → mGo J L xs d MC MS Post cn sn tgt lv st h) (kf : ¬ x = y → mGo J L xs d MC MS Post cn sn (pc + 3) lv st h) : mGo J L xs d MC MS Post cn sn pc lv (.int y :: .int x :: st) h := by
  intro p l e R s m args below meth c D ro A al0 Q C hh al ws H locs ls sC hx hY hv hs
  obtain ⟨r1, rfl, hs1s⟩ := mL_i hs
  obtain ⟨r, rfl, hs2s⟩ := mL_i hs1s
  exact lv_icmp_eq C.1 C.2.1 hd ht (fun z => (kt z p l e R s m args below meth c D ro A al0 Q C hh al ws H locs ls _ hx hY hv hs2s)) (fun z => (kf z p l e R s m args below meth c D ro A al0 Q C hh al ws H locs ls _ hx hY hv hs2s))
theorem mj_icmpne {x y : Int32} {off : Int} (hd : decode J.2.1 pc = .ok (.if_icmp .ne off, 3)) (tgt : Nat) (ht : (pc : Int) + off = (tgt : Int)) (kt : ¬ x = y → mGo J L xs d MC MS Post cn sn tgt lv st h) (kf : x = y → mGo J L xs d MC MS Post cn sn (pc + 3) lv st h) : mGo J L xs d MC MS Post cn sn pc lv (.int y :: .int x :: st) h := by
  intro p l e R s m args below meth c D ro A al0 Q C hh al ws H locs ls sC hx hY hv hs
  obtain ⟨r1, rfl, hs1s⟩ := mL_i hs
  obtain ⟨r, rfl, hs2s⟩ := mL_i hs1s
  exact lv_icmp_ne C.1 C.2.1 hd ht (fun z => (kt z p l e R s m args below meth c D ro A al0 Q C hh al ws H locs ls _ hx hY hv hs2s)) (fun z => (kf z p l e R s m args below meth c D ro A al0 Q C hh al ws H locs ls _ hx hY hv hs2s))
theorem mj_icmplt {x y : Int32} {off : Int} (hd : decode J.2.1 pc = .ok (.if_icmp .lt off, 3)) (tgt : Nat) (ht : (pc : Int) + off = (tgt : Int)) (kt : x < y → mGo J L xs d MC MS Post cn sn tgt lv st h) (kf : ¬ x < y → mGo J L xs d MC MS Post cn sn (pc + 3) lv st h) : mGo J L xs d MC MS Post cn sn pc lv (.int y :: .int x :: st) h := by
  intro p l e R s m args below meth c D ro A al0 Q C hh al ws H locs ls sC hx hY hv hs
  obtain ⟨r1, rfl, hs1s⟩ := mL_i hs
  obtain ⟨r, rfl, hs2s⟩ := mL_i hs1s
  exact lv_icmp_lt C.1 C.2.1 hd ht (fun z => (kt z p l e R s m args below meth c D ro A al0 Q C hh al ws H locs ls _ hx hY hv hs2s)) (fun z => (kf z p l e R s m args below meth c D ro A al0 Q C hh al ws H locs ls _ hx hY hv hs2s))
theorem mj_icmpge {x y : Int32} {off : Int} (hd : decode J.2.1 pc = .ok (.if_icmp .ge off, 3)) (tgt : Nat) (ht : (pc : Int) + off = (tgt : Int)) (kt : y ≤ x → mGo J L xs d MC MS Post cn sn tgt lv st h) (kf : ¬ y ≤ x → mGo J L xs d MC MS Post cn sn (pc + 3) lv st h) : mGo J L xs d MC MS Post cn sn pc lv (.int y :: .int x :: st) h := by
  intro p l e R s m args below meth c D ro A al0 Q C hh al ws H locs ls sC hx hY hv hs
  obtain ⟨r1, rfl, hs1s⟩ := mL_i hs
  obtain ⟨r, rfl, hs2s⟩ := mL_i hs1s
  exact lv_icmp_ge C.1 C.2.1 hd ht (fun z => (kt z p l e R s m args below meth c D ro A al0 Q C hh al ws H locs ls _ hx hY hv hs2s)) (fun z => (kf z p l e R s m args below meth c D ro A al0 Q C hh al ws H locs ls _ hx hY hv hs2s))
theorem mj_icmpgt {x y : Int32} {off : Int} (hd : decode J.2.1 pc = .ok (.if_icmp .gt off, 3)) (tgt : Nat) (ht : (pc : Int) + off = (tgt : Int)) (kt : y < x → mGo J L xs d MC MS Post cn sn tgt lv st h) (kf : ¬ y < x → mGo J L xs d MC MS Post cn sn (pc + 3) lv st h) : mGo J L xs d MC MS Post cn sn pc lv (.int y :: .int x :: st) h := by
  intro p l e R s m args below meth c D ro A al0 Q C hh al ws H locs ls sC hx hY hv hs
  obtain ⟨r1, rfl, hs1s⟩ := mL_i hs
  obtain ⟨r, rfl, hs2s⟩ := mL_i hs1s
  exact lv_icmp_gt C.1 C.2.1 hd ht (fun z => (kt z p l e R s m args below meth c D ro A al0 Q C hh al ws H locs ls _ hx hY hv hs2s)) (fun z => (kf z p l e R s m args below meth c D ro A al0 Q C hh al ws H locs ls _ hx hY hv hs2s))
theorem mj_icmple {x y : Int32} {off : Int} (hd : decode J.2.1 pc = .ok (.if_icmp .le off, 3)) (tgt : Nat) (ht : (pc : Int) + off = (tgt : Int)) (kt : x ≤ y → mGo J L xs d MC MS Post cn sn tgt lv st h) (kf : ¬ x ≤ y → mGo J L xs d MC MS Post cn sn (pc + 3) lv st h) : mGo J L xs d MC MS Post cn sn pc lv (.int y :: .int x :: st) h := by
  intro p l e R s m args below meth c D ro A al0 Q C hh al ws H locs ls sC hx hY hv hs
  obtain ⟨r1, rfl, hs1s⟩ := mL_i hs
  obtain ⟨r, rfl, hs2s⟩ := mL_i hs1s
  exact lv_icmp_le C.1 C.2.1 hd ht (fun z => (kt z p l e R s m args below meth c D ro A al0 Q C hh al ws H locs ls _ hx hY hv hs2s)) (fun z => (kf z p l e R s m args below meth c D ro A al0 Q C hh al ws H locs ls _ hx hY hv hs2s))
theorem mj_goto {off : Int} (hd : decode J.2.1 pc = .ok (.goto off, 3)) (tgt : Nat) (ht : (pc : Int) + off = (tgt : Int)) (k : mGo J L xs d MC MS Post cn sn tgt lv st h) : mGo J L xs d MC MS Post cn sn pc lv st h := by
  intro p l e R s m args below meth c D ro A al0 Q C hh al ws H locs ls sC hx hY hv hs
  exact lv_goto C.1 C.2.1 hd ht (k p l e R s m args below meth c D ro A al0 Q C hh al ws H locs ls _ hx hY hv hs)
theorem mj_lookup {dflt : Int} {ps : Array (Int × Int)} {len : Nat} {x : Int32} (hd : decode J.2.1 pc = .ok (.lookupswitch dflt ps, len)) (hp : (ps.toList.zip (ps.toList.drop 1)).all (fun (a, next) => a.1 < next.1) = true) {off : Int} (ho : Op.lookupswitch.offset ps.toList dflt x.toInt = off) (tgt : Nat) (ht : (pc : Int) + off = (tgt : Int)) (k : mGo J L xs d MC MS Post cn sn tgt lv st h) : mGo J L xs d MC MS Post cn sn pc lv (.int x :: st) h := by
  intro p l e R s m args below meth c D ro A al0 Q C hh al ws H locs ls sC hx hY hv hs
  obtain ⟨r, rfl, hs1s⟩ := mL_i hs
  exact lv_lookup C.1 C.2.1 hd hp ho ht (k p l e R s m args below meth c D ro A al0 Q C hh al ws H locs ls _ hx hY hv hs1s)
theorem mj_tableIn {dflt lo hi : Int} {offs : Array Int} {len : Nat} {x : Int32} (hd : decode J.2.1 pc = .ok (.tableswitch dflt lo hi offs, len)) (h1 : ¬ x.toInt < lo) (h2 : ¬ hi < x.toInt) {off : Int} (ho : offs[(x.toInt - lo).toNat]? = some off) (tgt : Nat) (ht : (pc : Int) + off = (tgt : Int)) (k : mGo J L xs d MC MS Post cn sn tgt lv st h) : mGo J L xs d MC MS Post cn sn pc lv (.int x :: st) h := by
  intro p l e R s m args below meth c D ro A al0 Q C hh al ws H locs ls sC hx hY hv hs
  obtain ⟨r, rfl, hs1s⟩ := mL_i hs
  exact lv_tableIn C.1 C.2.1 hd h1 h2 ho ht (k p l e R s m args below meth c D ro A al0 Q C hh al ws H locs ls _ hx hY hv hs1s)
theorem mj_tableOut {dflt lo hi : Int} {offs : Array Int} {len : Nat} {x : Int32} (hd : decode J.2.1 pc = .ok (.tableswitch dflt lo hi offs, len)) (h1 : x.toInt < lo ∨ hi < x.toInt) (tgt : Nat) (ht : (pc : Int) + dflt = (tgt : Int)) (k : mGo J L xs d MC MS Post cn sn tgt lv st h) : mGo J L xs d MC MS Post cn sn pc lv (.int x :: st) h := by
  intro p l e R s m args below meth c D ro A al0 Q C hh al ws H locs ls sC hx hY hv hs
  obtain ⟨r, rfl, hs1s⟩ := mL_i hs
  exact lv_tableOut C.1 C.2.1 hd h1 ht (k p l e R s m args below meth c D ro A al0 Q C hh al ws H locs ls _ hx hY hv hs1s)
theorem mj_iret {v : Int32} {ty : FieldType} (hd : decode J.2.1 pc = .ok (.ireturn, 1)) (hr : J.2.2.2 = some ty) (hn : narrow ty (.int v) = .int v) (hc : cn ≤ MC) (hs : sn ≤ MS) (k : Post (some (.int v)) h) : mGo J L xs d MC MS Post cn sn pc lv [.int v] h := by
  intro p l e R s m args below meth c D ro A al0 Q C hh al ws H locs ls sC hx hY hv hst
  obtain ⟨r, rfl, hstt⟩ := mL_i hst
  rw [mL_n hstt]
  exact W.widen hc hs (hh pc ls H locs al ws (some (.int v)) (some (.int v)) h hx hY rfl ⟨ty, hr, hn, hd⟩ k)
theorem mj_lret {v : Int64} (hd : decode J.2.1 pc = .ok (.lreturn, 1)) (hr : J.2.2.2 = some .long) (hc : cn ≤ MC) (hs : sn ≤ MS) (k : Post (some (.long v)) h) : mGo J L xs d MC MS Post cn sn pc lv [.long v] h := by
  intro p l e R s m args below meth c D ro A al0 Q C hh al ws H locs ls sC hx hY hv hst
  obtain ⟨r, rfl, hstt⟩ := mL_l hst
  rw [mL_n hstt]
  exact W.widen hc hs (hh pc ls H locs al ws (some (.long v)) (some (.long v)) h hx hY rfl ⟨hr, hd⟩ k)
theorem mj_aret {v : Nat} {rt : FieldType} (hd : decode J.2.1 pc = .ok (.areturn, 1)) (hr : J.2.2.2 = some rt) (hrt : (∃ n, rt = .object n) ∨ ∃ t, rt = .array t) (hc : cn ≤ MC) (hs : sn ≤ MS) (k : Post (some (.ref v)) h) : mGo J L xs d MC MS Post cn sn pc lv [.ref v] h := by
  intro p l e R s m args below meth c D ro A al0 Q C hh al ws H locs ls sC hx hY hv hst
  obtain ⟨w, r, rfl, h1, hstt⟩ := mL_c hst
  rw [mL_n hstt]
  exact W.widen hc hs (hh pc ls H locs al ws (some (.ref v)) (some w) h hx hY h1 ⟨⟨rt, hr, hrt⟩, hd⟩ k)
theorem mj_vret (hd : decode J.2.1 pc = .ok (.return_, 1)) (hr : J.2.2.2 = none) (hc : cn ≤ MC) (hs : sn ≤ MS) (k : Post none h) : mGo J L xs d MC MS Post cn sn pc lv [] h := by
  intro p l e R s m args below meth c D ro A al0 Q C hh al ws H locs ls sC hx hY hv hst
  rw [mL_n hst]
  exact W.widen hc hs (hh pc ls H locs al ws none none h hx hY trivial ⟨hr, hd⟩ k)
end MJ1
-- from the body to the contract
theorem mEn_len {ro : Nat → Nat} {al : mAl} : ∀ {As AC : List Value}, mL ro al As AC → (lg_sl AC).length = (mEn As).length
  | [], AC, h => by rw [mL_n h]; rfl
  | v :: l, AC, h => by
    obtain ⟨w, r, rfl, h1, h2⟩ := mL_c h
    have hc := mF_cat h1
    have ih := mEn_len h2
    simp only [lg_sl, List.flatMap_cons, mEn, hc]
    simp only [lg_sl] at ih
    split <;> simp [ih] <;> omega
theorem mEn_args {ro : Nat → Nat} {al : mAl} : ∀ {As AC : List Value}, mL ro al As AC → ∀ (o i : Nat) (v : Value), (mEn As)[i]? = some (some v) → ∃ w, mF ro al v = some w ∧ (o + i, w) ∈ lv_args o AC
  | [], AC, h, o, i, v, hi => by simp [mEn] at hi
  | u :: l, AC, h, o, i, v, hi => by
    obtain ⟨w, r, rfl, h1, h2⟩ := mL_c h
    have hc := mF_cat h1
    simp only [mEn] at hi
    simp only [lv_args, hc]
    split at hi
    · next hu =>
      rw [if_pos hu]
      match i, hi with
      | 0, hi => cases hi; exact ⟨w, h1, List.mem_cons_self⟩
      | 1, hi => cases hi
      | i + 2, hi =>
        obtain ⟨w', h3, h4⟩ := mEn_args h2 (o + 2) i v hi
        exact ⟨w', h3, List.mem_cons_of_mem _ (by rw [show o + (i + 2) = o + 2 + i by omega]; exact h4)⟩
    · next hu =>
      rw [if_neg hu]
      match i, hi with
      | 0, hi => cases hi; exact ⟨w, h1, List.mem_cons_self⟩
      | i + 1, hi =>
        obtain ⟨w', h3, h4⟩ := mEn_args h2 (o + 1) i v hi
        exact ⟨w', h3, List.mem_cons_of_mem _ (by rw [show o + (i + 1) = o + 1 + i by omega]; exact h4)⟩
theorem mLv_entry {ro : Nat → Nat} {al : mAl} {As AC : List Value} {n : Nat} (h : mL ro al As AC) (hn : (mEn As).length ≤ n) : mLv ro al n ((lg_sl AC ++ List.replicate (n - (lg_sl AC).length) Slot.unset).toArray) (mEn As ++ List.replicate (n - (mEn As).length) none) := by
  have hl := mEn_len h
  refine ⟨by simp; omega, lv_args 0 AC, lv_entry AC (by rw [hl]; exact hn), fun i v hi => ?_⟩
  by_cases hi2 : i < (mEn As).length
  · rw [List.getElem?_append_left hi2] at hi
    obtain ⟨w, h1, h2⟩ := mEn_args h 0 i v hi
    exact ⟨w, h1, by rw [Nat.zero_add] at h2; exact h2⟩
  · rw [List.getElem?_append_right (by omega)] at hi
    have := List.mem_of_getElem? hi
    rw [List.mem_replicate] at this
    exact absurd this.2 (by simp)
theorem mMet_of {J : mM} {L : Nat} {xs : Nat → Int32} {d : Nat × Nat} {mc ms : Nat} {As : List Value} {h : mHeap} {Post : Option Value → mHeap → Prop} (hy : plainName J.1.cls = true) (hn : (mEn As).length ≤ J.2.2.1) (k : mGo J L xs d mc ms Post 0 0 0 (mEn As ++ List.replicate (J.2.2.1 - (mEn As).length) none) [] h) : mMet J L xs d mc ms As h Post := by
  intro l D ro al ws AC sz hAC
  refine Met.ofW (cc := J.2.1) (maxL := J.2.2.1) (ret := J.2.2.2) hy rfl ?_
  intro p e s m args below meth c s₁ B hml hv
  obtain ⟨rfl, hsz, hP, hD0, hW, hK, hR⟩ := hv
  have hlocks := B.notSynchronized
  have hr := B.returns
  have hx := B.exec
  have hb := B.bytes
  subst hsz
  rw [lg_entry_eq]
  refine k p l e _ s m AC.toArray below meth c D ro (va_A ws s.heap.size) al _ ⟨hx, hb, hr, hml, findClass_of_methodNamed B.named, fun w hw => atoms_spec (ws := mWs J) B.pre w (List.mem_cons_of_mem _ hw), fun hi => (name_of_methodNamed B.named B.method).1.trans hi, hK, hR, fun q hq => Or.inr hq, Nat.le_refl _, Nat.le_refl _, Nat.le_refl _, Nat.le_refl _⟩ ?_ al ws s.heap [] _ [] mExt.rf ⟨hP, hD0.self, va_S.rf, hW⟩ (mLv_entry hAC hn) trivial
  intro pc ls H locs al' ws' r rC h' hx' hY hO hret hpost
  obtain ⟨hP', hD', hS', hW'⟩ := hY
  have key : ∀ t : State, t.heap = H → s.WarmedH t.vm → ((∃ (r rC2 : Option Value) (h' : mHeap) (al' : mAl) (ws' : va_W), (Outcome.returned rC) = .returned rC2 ∧ mO ro al' r rC2 ∧ mExt al al' ∧ Post r h' ∧ va_P D vwCl ws' t.heap ∧ va_D (va_A ws s.heap.size) ws' ∧ mWd t ro al' h' ws') ∧ va_F (va_A ws s.heap.size) s t) := fun t ht hWt =>
    ⟨⟨r, rC, h', al', ws', rfl, hO, hx', hpost, by rw [ht]; exact hP', hD', mWd_moved hWt.alike hW'⟩, hS'.F ht⟩
  match r, rC, hO, hret, key with
  | none, none, _, hret, key => exact W.vret hx hb (hr.trans hret.1) key hS'.2.2 hret.2
  | some (.int v), some w, hO, hret, key =>
    obtain ⟨ty, h1, h2, h3⟩ := hret
    cases hO
    exact W.zret hx hb (hr.trans h1) h2 key hS'.2.2 h3
  | some (.long v), some w, hO, hret, key =>
    cases hO
    exact W.lret hx hb (hr.trans hret.1) key hS'.2.2 hret.2
  | some (.ref v), some w, hO, hret, key =>
    obtain ⟨⟨rt, h1, h2⟩, h3⟩ := hret
    have hw : ∃ a, w = .ref a := by
      simp only [mO, mF, Option.map_eq_some_iff] at hO
      obtain ⟨q, -, rfl⟩ := hO
      exact ⟨_, rfl⟩
    exact W.aret hx hb (hr.trans h1) h2 (Or.inr hw) key hS'.2.2 h3
theorem mMet.mono {J : mM} {L : Nat} {xs : Nat → Int32} {d : Nat × Nat} {mc ms : Nat} {As : List Value} {h : mHeap} {Post Post' : Option Value → mHeap → Prop} (hm : ∀ r h', Post r h' → Post' r h') (k : mMet J L xs d mc ms As h Post) : mMet J L xs d mc ms As h Post' := by
  intro l D ro al ws AC sz hAC
  have k2 := k l D ro al ws AC sz hAC
  intro p e ha hc hk s m args below hf ht hP hx
  obtain ⟨n, o, h1, h2, h3, ⟨⟨r, rC, h', al', ws', h4, h5, h6, h7, h8⟩, h9⟩, h10⟩ := k2 p e ha hc hk s m args below hf ht hP hx
  exact ⟨n, o, h1, h2, h3, ⟨⟨r, rC, h', al', ws', h4, h5, h6, hm r h' h7, h8⟩, h9⟩, h10⟩
-- fields
section MJ2
variable {J : mM} {L : Nat} {xs : Nat → Int32} {d : Nat × Nat} {MC MS : Nat} {Post : Option Value → mHeap → Prop} {cn sn pc : Nat} {lv : List (Option Value)} {st : List Value} {h : mHeap}
theorem mj_get {idx ci k a : Nat} {fs : List Value} {v : Value} (hd : decode J.2.1 pc = .ok (.getfield idx, 3)) (hf : mFd J.1.cls idx ci k) (hh : h[a]? = some (.inr (ci, fs))) (hv : fs[k]? = some v) (kk : mGo J L xs d MC MS Post cn sn (pc + 3) lv (v :: st) h) : mGo J L xs d MC MS Post cn sn pc lv (.ref a :: st) h := by
  intro p l e R s m args below meth c D ro A al0 Q C hH al ws H locs ls sC hx hY hL hs
  obtain ⟨a', c', r, rfl, ha, hs1s⟩ := mL_r hs
  obtain ⟨⟨C1, T, N⟩, hc, hk, hown, hlink⟩ := hf
  obtain ⟨a2, c2, f, h1, h2, h3⟩ := hY.2.2.2.2.2 a _ hh
  rw [ha] at h1
  cases h1
  obtain ⟨fC, rfl, hfs⟩ := h3
  obtain ⟨w, hw1, hw2⟩ := mL_get hfs hv
  obtain ⟨tyf, t1, t2, t3⟩ := mCls_ok ci _ hc
  rcases hlink with hlink | ⟨host, hlink⟩
  · exact va_get C.1 C.2.1 C.2.2.2.2.2.1 t3 C.2.2.2.2.1 C.2.2.2.2.2.2.2.1.1 hY.1 a h2 hc k hk (C.2.2.2.2.2.1 _ hlink) (fun x hx => by rw [hown] at hx; exact hx) hw1 hd (kk p l e R s m args below meth c D ro A al0 Q C hH al ws H locs ls _ hx hY hL ⟨hw2, hs1s⟩)
  · exact va_getN C.1 C.2.1 C.2.2.2.2.2.1 t3 C.2.2.2.2.1 C.2.2.2.2.2.2.2.1.1 hY.1 a h2 hc k hk (va_Nw.use rfl (C.2.2.2.2.2.2.2.1.2 _ hlink)) (fun x hx => by rw [hown] at hx; exact hx) hw1 hd (kk p l e R s m args below meth c D ro A al0 Q C hH al ws H locs ls _ hx hY hL ⟨hw2, hs1s⟩)
theorem mFit {ty : FieldType} {ro : Nat → Nat} {al : mAl} {v w : Value} (h : mF ro al v = some w) (hn : narrow ty v = v) (hf : fits ty v = true) : narrow ty w = w ∧ fits ty w = true := by
  cases v with
  | ref k =>
    simp only [mF, Option.map_eq_some_iff] at h
    obtain ⟨q, -, rfl⟩ := h
    cases ty <;> first | exact ⟨rfl, rfl⟩ | (simp [fits] at hf)
  | retAddr k =>
    cases h
    cases ty <;> first | exact ⟨rfl, rfl⟩ | (simp [fits] at hf)
  | _ => cases h; exact ⟨hn, hf⟩
theorem mj_put {idx ci k a : Nat} {fs : List Value} {v : Value} {ty : FieldType} (hd : decode J.2.1 pc = .ok (.putfield idx, 3)) (hf : mFd J.1.cls idx ci k) (ht : mFt ci k ty false) (hh : h[a]? = some (.inr (ci, fs))) (hl : k < fs.length) (hn : narrow ty v = v) (hfit : fits ty v = true) (kk : mGo J L xs d MC MS Post cn sn (pc + 3) lv st (h.set a (.inr (ci, fs.set k v)))) : mGo J L xs d MC MS Post cn sn pc lv (v :: .ref a :: st) h := by
  intro p l e R s m args below meth c D ro A al0 Q C hH al ws H locs ls sC hx hY hL hs
  obtain ⟨w, r1, rfl, hv1, hs1s⟩ := mL_c hs
  obtain ⟨a', c', r, rfl, ha, hs2s⟩ := mL_r hs1s
  obtain ⟨⟨C1, T, N⟩, hc, hk, hown, hlink⟩ := hf
  obtain ⟨q', hc', hty, hfin⟩ := ht
  rw [hc] at hc'
  cases hc'
  obtain ⟨a2, c2, f, h1, h2, h3⟩ := hY.2.2.2.2.2 a _ hh
  rw [ha] at h1
  cases h1
  obtain ⟨fC, rfl, hfs⟩ := h3
  obtain ⟨tyf, t1, t2, t3⟩ := mCls_ok ci _ hc
  obtain ⟨hn2, hf2⟩ := mFit hv1 hn hfit
  have hlen : k < fC.length := by rw [mL_len hfs]; exact hl
  rcases hlink with hlink | ⟨host, hlink⟩
  · refine va_put C.1 C.2.1 C.2.2.2.2.2.1 t3 tyf t1 t2 C.2.2.2.2.1 C.2.2.2.2.2.2.2.1.1 hY.1 hY.2.1 hY.2.2.1 a h2 hc k hk (C.2.2.2.2.2.1 _ hlink) (fun x hx => by rw [hown] at hx; exact hx) hfin hty hn2 hf2 hlen hd (fun H1 locs1 hP hD hS => ?_)
    exact kk p l e R s m args below meth c D ro A al0 Q C hH al _ H1 locs1 ls _ hx ⟨hP, hD, hS, mWd_set hY.2.2.2 ha ⟨_, rfl, mL_set hfs hv1⟩⟩ hL hs2s
  · refine va_putN C.1 C.2.1 C.2.2.2.2.2.1 t3 tyf t1 t2 C.2.2.2.2.1 C.2.2.2.2.2.2.2.1.1 hY.1 hY.2.1 hY.2.2.1 a h2 hc k hk (va_Nw.use rfl (C.2.2.2.2.2.2.2.1.2 _ hlink)) (fun x hx => by rw [hown] at hx; exact hx) hfin hty hn2 hf2 hlen hd (fun H1 locs1 hP hD hS => ?_)
    exact kk p l e R s m args below meth c D ro A al0 Q C hH al _ H1 locs1 ls _ hx ⟨hP, hD, hS, mWd_set hY.2.2.2 ha ⟨_, rfl, mL_set hfs hv1⟩⟩ hL hs2s
theorem mj_putF {idx ci k a : Nat} {fs : List Value} {v : Value} {ty : FieldType} (hd : decode J.2.1 pc = .ok (.putfield idx, 3)) (hi : J.1.name = "<init>") (hf : ∃ q : vw_C, vwCl[ci]? = some q ∧ k < q.2.2 ∧ (q.2.1 k).1 = q.1 ∧ q.1 = J.1.cls ∧ Cond.fieldLink J.1.cls idx q.1 (q.2.1 k).2.1 (q.2.1 k).2.2.1 ∈ mWS) (ht : mFt ci k ty true) (hh : h[a]? = some (.inr (ci, fs))) (hl : k < fs.length) (hn : narrow ty v = v) (hfit : fits ty v = true) (kk : mGo J L xs d MC MS Post cn sn (pc + 3) lv st (h.set a (.inr (ci, fs.set k v)))) : mGo J L xs d MC MS Post cn sn pc lv (v :: .ref a :: st) h := by
  intro p l e R s m args below meth c D ro A al0 Q C hH al ws H locs ls sC hx hY hL hs
  obtain ⟨w, r1, rfl, hv1, hs1s⟩ := mL_c hs
  obtain ⟨a', c', r, rfl, ha, hs2s⟩ := mL_r hs1s
  obtain ⟨⟨C1, T, N⟩, hc, hk, hown, hcl, hlink⟩ := hf
  obtain ⟨q', hc', hty, hfin⟩ := ht
  rw [hc] at hc'
  cases hc'
  obtain ⟨a2, c2, f, h1, h2, h3⟩ := hY.2.2.2.2.2 a _ hh
  rw [ha] at h1
  cases h1
  obtain ⟨fC, rfl, hfs⟩ := h3
  obtain ⟨tyf, t1, t2, t3⟩ := mCls_ok ci _ hc
  obtain ⟨hn2, hf2⟩ := mFit hv1 hn hfit
  have hlen : k < fC.length := by rw [mL_len hfs]; exact hl
  refine va_putF C.1 C.2.1 C.2.2.2.2.2.1 t3 tyf t1 t2 C.2.2.2.2.1 C.2.2.2.2.2.2.2.1.1 hY.1 hY.2.1 hY.2.2.1 a h2 hc k hk (C.2.2.2.2.2.1 _ hlink) (fun x hx => by rw [hown] at hx; exact hx) hfin (C.2.2.2.2.2.2.1 hi) (hown.trans hcl) hty hn2 hf2 hlen hd (fun H1 locs1 hP hD hS => ?_)
  exact kk p l e R s m args below meth c D ro A al0 Q C hH al _ H1 locs1 ls _ hx ⟨hP, hD, hS, mWd_set hY.2.2.2 ha ⟨_, rfl, mL_set hfs hv1⟩⟩ hL hs2s
theorem mj_gets {idx k : Nat} {q : String × String × Nat × (Nat → Int32)} (hd : decode J.2.1 pc = .ok (.getstatic idx, 3)) (hq : mStat[k]? = some q) (hlink : Cond.fieldLink J.1.cls idx q.1 q.2.1 "[I" ∈ mWS) (kk : mGo J L xs d MC MS Post cn sn (pc + 3) lv (.retAddr (k + 1) :: st) h) : mGo J L xs d MC MS Post cn sn pc lv st h := by
  intro p l e R s m args below meth c D ro A al0 Q C hH al ws H locs ls sC hx hY hL hs
  exact va_gets C.1 C.2.1 (C.2.2.2.2.2.2.2.2.1.2 k q hq).1 hY.2.2.1 C.2.2.2.2.1 (C.2.2.2.2.2.1 _ hlink) (fun x hx => hx) hd (kk p l e R s m args below meth c D ro A al0 Q C hH al ws H locs ls _ hx hY hL ⟨rfl, hs⟩)
-- arrays
theorem mj_iald {a n : Nat} {f : Nat → Int32} {i : Int32} (hd : decode J.2.1 pc = .ok (.iaload, 1)) (hh : h[a]? = some (.inl (.int, n, .inl f))) (hi : vp_in i n) (kk : mGo J L xs d MC MS Post cn sn (pc + 1) lv (.int (f i.toNatClampNeg) :: st) h) : mGo J L xs d MC MS Post cn sn pc lv (.int i :: .ref a :: st) h := by
  intro p l e R s m args below meth c D ro A al0 Q C hH al ws H locs ls sC hx hY hL hs
  obtain ⟨r1, rfl, hs1s⟩ := mL_i hs
  obtain ⟨a', c', r, rfl, ha, hs2s⟩ := mL_r hs1s
  obtain ⟨a2, c2, f2, h1, h2, h3⟩ := hY.2.2.2.2.2 a _ hh
  rw [ha] at h1
  cases h1
  obtain ⟨rfl, -, h4, h5⟩ := h3
  have hK : va_K D vwCl [(c', .int)] s := ⟨C.2.2.2.2.2.2.2.1.1.1, fun k q hk => by
    match k, hk with
    | 0, hk => cases hk; exact ⟨h4, h5⟩⟩
  exact va_iald C.1 C.2.1 hK hY.1 a 0 h2 rfl hi hd (kk p l e R s m args below meth c D ro A al0 Q C hH al ws H locs ls _ hx hY hL ⟨rfl, hs2s⟩)
theorem mj_oald {a n : Nat} {f : Nat → Int32} {i : Int32} (hd : decode J.2.1 pc = .ok (.iaload, 1)) (hh : mRoA L xs a = some (n, f)) (hi : vp_in i n) (kk : mGo J L xs d MC MS Post cn sn (pc + 1) lv (.int (f i.toNatClampNeg) :: st) h) : mGo J L xs d MC MS Post cn sn pc lv (.int i :: .retAddr a :: st) h := by
  intro p l e R s m args below meth c D ro A al0 Q C hH al ws H locs ls sC hx hY hL hs
  obtain ⟨r1, rfl, hs1s⟩ := mL_i hs
  obtain ⟨r, rfl, hs2s⟩ := mL_o hs1s
  exact va_ti C.1 C.2.1 (mRo_T C.2.2.2.2.2.2.2.2.1 hh) hY.2.2.1 hi rfl hd (kk p l e R s m args below meth c D ro A al0 Q C hH al ws H locs ls _ hx hY hL ⟨rfl, hs2s⟩)
theorem mj_iast {a n : Nat} {f : Nat → Int32} {i x : Int32} (hd : decode J.2.1 pc = .ok (.iastore, 1)) (hh : h[a]? = some (.inl (.int, n, .inl f))) (hi : vp_in i n) (kk : mGo J L xs d MC MS Post cn sn (pc + 1) lv st (h.set a (.inl (.int, n, .inl (upd f i.toNatClampNeg x))))) : mGo J L xs d MC MS Post cn sn pc lv (.int x :: .int i :: .ref a :: st) h := by
  intro p l e R s m args below meth c D ro A al0 Q C hH al ws H locs ls sC hx hY hL hs
  obtain ⟨r1, rfl, hs1s⟩ := mL_i hs
  obtain ⟨r2, rfl, hs2s⟩ := mL_i hs1s
  obtain ⟨a', c', r, rfl, ha, hs3s⟩ := mL_r hs2s
  obtain ⟨a2, c2, f2, h1, h2, h3⟩ := hY.2.2.2.2.2 a _ hh
  rw [ha] at h1
  cases h1
  obtain ⟨rfl, -, h4, h5⟩ := h3
  have hK : va_K D vwCl [(c', .int)] s := ⟨C.2.2.2.2.2.2.2.1.1.1, fun k q hk => by
    match k, hk with
    | 0, hk => cases hk; exact ⟨h4, h5⟩⟩
  refine va_iast C.1 C.2.1 hK hY.1 hY.2.1 hY.2.2.1 a 0 h2 rfl hi hd (fun H1 locs1 hP hD hS => ?_)
  exact kk p l e R s m args below meth c D ro A al0 Q C hH al _ H1 locs1 ls _ hx ⟨hP, hD, hS, mWd_set hY.2.2.2 ha ⟨rfl, (fun g z => by cases z), h4, h5⟩⟩ hL hs3s
theorem mj_alen {a n : Nat} {ty : FieldType} {x : (Nat → Int32) ⊕ (Nat → Int64) ⊕ (Nat → UInt32) ⊕ (Nat → UInt64) ⊕ (Nat → Option Nat)} (hd : decode J.2.1 pc = .ok (.arraylength, 1)) (hh : h[a]? = some (.inl (ty, n, x))) (kk : mGo J L xs d MC MS Post cn sn (pc + 1) lv (.int (Int32.ofNat n) :: st) h) : mGo J L xs d MC MS Post cn sn pc lv (.ref a :: st) h := by
  intro p l e R s m args below meth c D ro A al0 Q C hH al ws H locs ls sC hx hY hL hs
  obtain ⟨a', c', r, rfl, ha, hs1s⟩ := mL_r hs
  obtain ⟨a2, c2, f2, h1, h2, h3⟩ := hY.2.2.2.2.2 a _ hh
  rw [ha] at h1
  cases h1
  obtain ⟨rfl, -, h4, h5⟩ := h3
  have hK : va_K D vwCl [(c', ty)] s := ⟨C.2.2.2.2.2.2.2.1.1.1, fun k q hk => by
    match k, hk with
    | 0, hk => cases hk; exact ⟨h4, h5⟩⟩
  exact va_alen C.1 C.2.1 hK hY.1 a 0 h2 rfl rfl hd (kk p l e R s m args below meth c D ro A al0 Q C hH al ws H locs ls _ hx hY hL ⟨rfl, hs1s⟩)
theorem mj_olen {a n : Nat} {f : Nat → Int32} (hd : decode J.2.1 pc = .ok (.arraylength, 1)) (hh : mRoA L xs a = some (n, f)) (kk : mGo J L xs d MC MS Post cn sn (pc + 1) lv (.int (Int32.ofNat n) :: st) h) : mGo J L xs d MC MS Post cn sn pc lv (.retAddr a :: st) h := by
  intro p l e R s m args below meth c D ro A al0 Q C hH al ws H locs ls sC hx hY hL hs
  obtain ⟨r, rfl, hs1s⟩ := mL_o hs
  exact va_tlen C.1 C.2.1 (mRo_T C.2.2.2.2.2.2.2.2.1 hh) hY.2.2.1 rfl hd (kk p l e R s m args below meth c D ro A al0 Q C hH al ws H locs ls _ hx hY hL ⟨rfl, hs1s⟩)
theorem mj_newi {n : Int32} (N : Nat) (hd : decode J.2.1 pc = .ok (.newarray .int, 2)) (hw : Cond.arrayClass .int ∈ mWS) (hn : ¬ n < 0) (hN : n.toNatClampNeg = N) (hb : N * 4 ≤ 536870912) (hc : cn + 1 ≤ MC) (hsl : sn + N ≤ MS) (kk : mGo J L xs d MC MS Post (cn + 1) (sn + N) (pc + 2) lv (.ref h.length :: st) (h ++ [.inl (.int, N, .inl (fun _ => 0))])) : mGo J L xs d MC MS Post cn sn pc lv (.int n :: st) h := by
  intro p l e R s m args below meth c D ro A al0 Q C hH al ws H locs ls sC hx hY hL hs
  obtain ⟨r, rfl, hs1s⟩ := mL_i hs
  refine va_newa (a0 := (N, .inl (fun _ => 0))) C.1 C.2.1 (atype := .int) (C.2.2.2.2.2.1 _ hw) rfl C.2.2.2.2.2.2.2.1.1 hY.1 hY.2.1 hY.2.2.1 C.2.2.2.2.2.2.2.2.2.1 (fun cA => rfl) hn hN hb (Nat.le_trans hc C.2.2.2.2.2.2.2.2.2.2.2.2.1) (Nat.le_trans hsl C.2.2.2.2.2.2.2.2.2.2.2.2.2) hd (fun q cA H1 hK hP hD hS => ?_)
  have h0 := hK.2 0 (cA, .int) rfl
  refine kk p l e R s m args below meth c D ro A al0 Q C hH (al ++ [(q, cA)]) _ H1 locs ls _ (hx.tr mExt.push) ⟨hP, hD, hS, mWd_push hY.2.2.2 ⟨rfl, (fun g z => by cases z), h0.1, h0.2⟩⟩ (mLv_ext mExt.push hL) ⟨?_, mL_ext mExt.push hs1s⟩
  have := hY.2.2.2.1
  simp [mF, ← this]
theorem mj_new {idx ci : Nat} {C1 : String} {T : u_T} {N : Nat} {fs : List Value} (hd : decode J.2.1 pc = .ok (.new idx, 3)) (hc : vwCl[ci]? = some (C1, T, N)) (h1 : Cond.classLink J.1.cls idx C1 ∈ mWS) (h2 : Cond.instantiable C1 N ∈ mWS) (h3 : Cond.initialized C1 ∈ mWS) (hfs : ∀ (ro : Nat → Nat) (al : mAl), mL ro al fs fs) (hdef : ∀ j, j < N → ∀ ty, parseFieldDescriptor (T j).2.2.1 = some ty → defaultValue ty = vp_V fs j) (hcn : cn + 1 ≤ MC) (hsl : sn + N ≤ MS) (kk : mGo J L xs d MC MS Post (cn + 1) (sn + N) (pc + 3) lv (.ref h.length :: st) (h ++ [.inr (ci, fs)])) : mGo J L xs d MC MS Post cn sn pc lv st h := by
  intro p l e R s m args below meth c D ro A al0 Q C hH al ws H locs ls sC hx hY hL hs
  obtain ⟨tyf, t1, t2, t3⟩ := mCls_ok ci _ hc
  refine va_new (c0 := c) C.1 C.2.1 C.2.2.2.2.2.1 t3 tyf t1 C.2.2.2.2.1 (C.2.2.2.2.2.1 _ h1) (C.2.2.2.2.2.1 _ h2) (C.2.2.2.2.2.1 _ h3) C.2.2.2.2.2.2.2.1.1 hY.1 hY.2.1 hY.2.2.1 C.2.2.2.2.2.2.2.2.2.1 hc (fun j hj => hdef j hj _ (t1 j hj)) (Nat.le_trans hcn C.2.2.2.2.2.2.2.2.2.2.2.2.1) (Nat.le_trans hsl C.2.2.2.2.2.2.2.2.2.2.2.2.2) hd (fun q H1 hP hD hS => ?_)
  refine kk p l e R s m args below meth c D ro A al0 Q C hH (al ++ [(q, 0)]) _ H1 locs ls _ (hx.tr mExt.push) ⟨hP, hD, hS, mWd_push hY.2.2.2 ⟨fs, rfl, hfs _ _⟩⟩ (mLv_ext mExt.push hL) ⟨?_, mL_ext mExt.push hs⟩
  have := hY.2.2.2.1
  simp [mF, ← this]
theorem mj_objInit {idx a : Nat} (hd : decode J.2.1 pc = .ok (.invokespecial idx, 3)) (h1 : Cond.methodLink J.1.cls idx Lib.objectInit ∈ mWS) (h2 : Cond.instanceMethod Lib.objectInit ∈ mWS) (h3 : Cond.code Lib.objectInit ⟨#[0xb1]⟩ 1 none ∈ mWS) (hdd : 1 ≤ d.1 ∧ (st.map fun v => v.category).sum + 12 ≤ d.2) (kk : mGo J L xs d MC MS Post cn sn (pc + 3) lv st h) : mGo J L xs d MC MS Post cn sn pc lv (.ref a :: st) h := by
  intro p l e R s m args below meth c D ro A al0 Q C hH al ws H locs ls sC hx hY hL hs
  obtain ⟨a', c', r, rfl, ha, hs1s⟩ := mL_r hs
  have hsz : ls.size = c.maxLocals := by rw [C.2.2.2.1]; obtain ⟨-, lc, q1, -⟩ := hL; exact q1.1
  refine W.objInit C.1 C.2.1 C.2.2.2.2.1 (C.2.2.2.2.2.1 _ h1) (C.2.2.2.2.2.1 _ h2) (C.2.2.2.2.2.1 _ h3) rfl hsz rfl hd (Nat.le_trans hdd.1 C.2.2.2.2.2.2.2.2.2.2.1) ?_ ?_
  · have q := mL_catsum hs1s
    have := Nat.le_trans hdd.2 C.2.2.2.2.2.2.2.2.2.2.2.1
    show 2 * 0 + _ + 12 ≤ _
    rw [q]; omega
  · exact W.eq (g2 := F0 m (pc + 3) ls r) rfl (kk p l e R s m args below meth c D ro A al0 Q C hH al ws H locs ls _ hx hY hL hs1s)
end MJ2
-- calls
theorem ma_call {p : Program} {l : Launch} {e : Env} {R : Room} {s : State} {m : MethodId} {args : Array Value} {below : List Frame} {meth : Method} {c : Code} {H : Heap} {locs : List Loc} {cn sn mc ms pc : Nat} {Q : State → Prop} {D : va_G} {ro : Nat → Nat} {A : Nat → Prop} {al : mAl} {ws : va_W} {ls : Array Slot} {st0 rest : List Value} {Post : Option Value → mHeap → Prop}
    (hr : va_Run p l e R s m args below meth c H locs cn sn mc ms (F0 m pc ls st0) rest (fun st oc t => (∃ (r rC : Option Value) (h' : mHeap) (al' : mAl) (ws' : va_W), oc = .returned rC ∧ mO ro al' r rC ∧ mExt al al' ∧ Post r h' ∧ va_P D vwCl ws' t.heap ∧ va_D (va_A ws H.size) ws' ∧ mWd t ro al' h' ws') ∧ va_F (va_A ws H.size) st t) (va_A ws H.size))
    (hD : va_D A ws) (hS : va_S A s.heap H locs) (hA : ∀ q, s.heap.size ≤ q → A q)
    (kk : ∀ (r rC : Option Value) (h' : mHeap) (al' : mAl) (ws' : va_W) (H1 : Heap) (locs1 : List Loc), mO ro al' r rC → mExt al al' → Post r h' → mDyn ro A s D al' ws' H1 locs1 h' → W p l e R s m args below meth c H1 locs1 (cn + mc) (sn + ms) Q (F0 m (pc + 3) ls (rC.toList ++ rest))) : W p l e R s m args below meth c H locs cn sn Q (F0 m pc ls st0) := by
  intro T hT X
  obtain ⟨v, st₀, t, T', L, h0, X', hL, e1, e2, ⟨⟨r, rC, h', al', ws', hv, hO, hx, hp, hP1, hD1, hw1⟩, hz, hk⟩, st⟩ := hr T hT X
  cases hv
  rw [h0] at hz hk
  have hf : ∀ q, va_A ws H.size q → A q := fun q hq => by
    rcases hq with ⟨k, e, hq⟩ | hq
    · exact hD.2 k _ hq
    · exact hA q (Nat.le_trans hS.1 hq)
  have hal : s.vm.Alike t.vm := by rw [← e2]; exact X'.warmed.alike
  obtain ⟨t2, a1, b1⟩ := kk r v h' al' ws' T'.heap (locs ++ L) hO hx hp ⟨by rw [e1]; exact hP1, hD1.weaken (fun _ _ _ q => hf _ q), ⟨Nat.le_trans hS.1 (by rw [e1]; exact hz), fun q h1 h2 => by rw [e1, hk q (Nat.lt_of_lt_of_le h1 hS.1) (fun z => h2 (hf q z))]; exact hS.2.1 q h1 h2, fun q hq => by
      rcases List.mem_append.mp hq with h | h
      · exact hS.2.2 q h
      · exact hf _ (hL q h)⟩, mWd_moved hal.symm hw1⟩ T' rfl X'
  exact ⟨t2, st t2 a1, b1⟩
/-- the room: frames, locals, cells, slots; what is left on the stack -/
def mRoom (d d' : Nat × Nat) (J' : mM) (st : List Value) (cn sn mc ms MC MS : Nat) : Prop := d'.1 + 1 ≤ d.1 ∧ 8 + (J'.2.2.1 + 11) + d'.2 ≤ d.2 ∧ (st.map fun v => v.category).sum ≤ 8 ∧ cn + mc ≤ MC ∧ sn + ms ≤ MS
section MJ3
variable {J : mM} {L : Nat} {xs : Nat → Int32} {d : Nat × Nat} {MC MS : Nat} {Post : Option Value → mHeap → Prop} {cn sn pc : Nat} {lv : List (Option Value)} {st : List Value} {h : mHeap}
theorem mPre {s : State} {args : Array Value} {D : va_G} {ro : Nat → Nat} {A : Nat → Prop} {al : mAl} {ws : va_W} {H : Heap} {locs : List Loc} {L : Nat} {xs : Nat → Int32} {h : mHeap} {AC : List Value} (hK : va_K D vwCl [] s ∧ mNs s) (hR : mRo ro L xs A s s.heap) (hA : ∀ q, s.heap.size ≤ q → A q) (hY : mDyn ro A s D al ws H locs h) :
    PreS s H (va_Pc AC (fun U => U.heap.size = H.size ∧ va_P D vwCl ws U.heap ∧ va_D (fun _ => True) ws ∧ mWd U ro al h ws ∧ (va_K D vwCl [] U ∧ mNs U) ∧ mRo ro L xs (va_A ws H.size) U U.heap)) AC := by
  obtain ⟨hP, hD, hS, hW⟩ := hY
  have hf : ∀ q, va_A ws H.size q → A q := fun q hq => by
    rcases hq with ⟨k, e, hq⟩ | hq
    · exact hD.2 k _ hq
    · exact hA q (Nat.le_trans hS.1 hq)
  refine ⟨fun a U g mk q => ?_, fun U hU hW1 => ⟨rfl, by rw [hU], by rw [hU]; exact hP, hD.weaken (fun _ _ _ _ => trivial), mWd_moved hW1.alike hW, ⟨va_K.moved hW1.alike hK.1, mNs_warm hW1 hK.2⟩, ?_⟩⟩
  · obtain ⟨q1, q2, q3, q4, q5, q6, q7⟩ := q
    exact ⟨q1, q2, q3, q4, mWd_moved (u := U) (U := U.calling g mk a) (Vm.Alike.refl U.vm) q5, ⟨va_K.moved (u := U) (U := U.calling g mk a) (Vm.Alike.refl U.vm) q6.1, mNs_same (s := U) (U := U.calling g mk a) rfl q6.2⟩, mRo_moved (u := U) (U := U.calling g mk a) (Vm.Alike.refl U.vm) q7⟩
  · rw [hU]
    exact mRo_moved hW1.alike (mRo_narrow (mRo_kept hR (fun a h1 h2 => hS.2.1 a h1 h2)) hf)
theorem mj_static {idx n : Nat} {J' : mM} {d' : Nat × Nat} {mc ms : Nat} {As st0 : List Value} (hd : decode J.2.1 pc = .ok (.invokestatic idx, 3)) (hw : mCw J' n) (hl : Cond.methodLink J.1.cls idx J'.1 ∈ mWS) (hst : Cond.static J'.1 ∈ mWS) (hn : As.length = n) (h0 : st0 = As.reverse ++ st) (hrm : mRoom d d' J' st cn sn mc ms MC MS)
    (kk : mMet J' L xs d' mc ms As h (fun r h' => mGo J L xs d MC MS Post (cn + mc) (sn + ms) (pc + 3) lv (r.toList ++ st) h')) : mGo J L xs d MC MS Post cn sn pc lv st0 h := by
  intro p l e R s m args below meth c D ro A al0 Q C hH al ws H locs ls sC hx hY hL hs
  subst h0
  obtain ⟨AR, rC, rfl, hs1, hs2⟩ := mL_app hs
  have hAC : mL ro al As AR.reverse := by have := mL_rev hs1; rw [List.reverse_reverse] at this; exact this
  have hsz : ls.size = J.2.2.1 := by obtain ⟨-, lc, q1, -⟩ := hL; exact q1.1
  obtain ⟨r1, r2, r3, r4, r5⟩ := hrm
  have hR := C.2.2.2.2.2.2.2.2.2.2
  have hpre := mPre (args := args) (AC := AR.reverse) C.2.2.2.2.2.2.2.1 C.2.2.2.2.2.2.2.2.1 C.2.2.2.2.2.2.2.2.2.1 hY
  refine ma_call (va_runS (As := AR.reverse) (rest := rC) (n := n) ⟨C.1, C.2.1, C.2.2.2.1, C.2.2.2.2.1, C.2.2.2.2.2.1⟩ (kk l D ro al ws AR.reverse H.size hAC) ⟨callB_of n C.2.2.2.2.2.1 (mWs_good hw.1) rfl rfl rfl (C.2.2.2.2.2.1 _ hw.2.1) (C.2.2.2.2.2.1 _ hl) hw.2.2 ⟨Nat.le_trans r1 hR.1, Nat.le_trans r2 hR.2.1⟩, C.2.2.2.2.2.1 _ hst⟩ hpre rfl (by rw [mL_len hAC]; exact hn) hsz (by rw [List.reverse_reverse]) (lv_room (by rw [mL_catsum hs2]; exact r3)) hd ⟨Nat.le_trans r4 hR.2.2.1, Nat.le_trans r5 hR.2.2.2⟩) hY.2.1 hY.2.2.1 C.2.2.2.2.2.2.2.2.2.1 (fun r rc h' al' ws' H1 locs1 hO hx1 hp hY1 => ?_)
  refine hp p l e R s m args below meth c D ro A al0 Q C hH al' ws' H1 locs1 ls _ (hx.tr hx1) hY1 (mLv_ext hx1 hL) ?_
  match r, rc, hO with
  | none, none, _ => exact mL_ext hx1 hs2
  | some v, some w, hO => exact ⟨hO, mL_ext hx1 hs2⟩
theorem mj_virtual {idx n ci a : Nat} {fs : List Value} {J' : mM} {d' : Nat × Nat} {mc ms : Nat} {As st0 : List Value} {T : u_T} {N : Nat} (hd : decode J.2.1 pc = .ok (.invokevirtual idx, 3)) (hw : mCw J' n) (hl : Cond.methodLink J.1.cls idx J'.1 ∈ mWS) (hin : Cond.instanceMethod J'.1 ∈ mWS) (hse : Cond.selects J'.1.cls J'.1 J'.1 ∈ mWS) (hc : vwCl[ci]? = some (J'.1.cls, T, N)) (hh : h[a]? = some (.inr (ci, fs))) (hn : As.length = n) (h0 : st0 = As.reverse ++ .ref a :: st) (hrm : mRoom d d' J' st cn sn mc ms MC MS)
    (kk : mMet J' L xs d' mc ms (.ref a :: As) h (fun r h' => mGo J L xs d MC MS Post (cn + mc) (sn + ms) (pc + 3) lv (r.toList ++ st) h')) : mGo J L xs d MC MS Post cn sn pc lv st0 h := by
  intro p l e R s m args below meth c D ro A al0 Q C hH al ws H locs ls sC hx hY hL hs
  subst h0
  obtain ⟨AR, rC0, rfl, hs1, hs2⟩ := mL_app hs
  obtain ⟨a', c', rC, rfl, ha, hs2⟩ := mL_r hs2
  have hAC : mL ro al As AR.reverse := by have := mL_rev hs1; rw [List.reverse_reverse] at this; exact this
  have hsz : ls.size = J.2.2.1 := by obtain ⟨-, lc, q1, -⟩ := hL; exact q1.1
  obtain ⟨r1, r2, r3, r4, r5⟩ := hrm
  have hR := C.2.2.2.2.2.2.2.2.2.2
  obtain ⟨a2, c2, f, h1, h2, h3⟩ := hY.2.2.2.2.2 a _ hh
  rw [ha] at h1
  cases h1
  obtain ⟨fC, rfl, hfs⟩ := h3
  have hpre := mPre (args := args) (AC := .ref a' :: AR.reverse) C.2.2.2.2.2.2.2.1 C.2.2.2.2.2.2.2.2.1 C.2.2.2.2.2.2.2.2.2.1 hY
  have hA2 : mL ro al (.ref a :: As) (.ref a' :: AR.reverse) := ⟨by simp [mF, ha], hAC⟩
  refine ma_call (va_runV (As := AR.reverse) (rest := rC) (n := n) ⟨C.1, C.2.1, C.2.2.2.1, C.2.2.2.2.1, C.2.2.2.2.2.1⟩ (kk l D ro al ws (.ref a' :: AR.reverse) H.size hA2) ⟨callB_of n C.2.2.2.2.2.1 (mWs_good hw.1) rfl rfl rfl (C.2.2.2.2.2.1 _ hw.2.1) (C.2.2.2.2.2.1 _ hl) hw.2.2 ⟨Nat.le_trans r1 hR.1, Nat.le_trans r2 hR.2.1⟩, C.2.2.2.2.2.1 _ hin, C.2.2.2.2.2.1 _ hse⟩ ⟨hpre.1, va_recv C.2.2.2.2.2.2.2.1.1 hY.1 hc h2, hpre.2⟩ rfl (by rw [mL_len hAC]; exact hn) hsz (by rw [List.reverse_reverse]) (lv_room (by rw [mL_catsum hs2]; exact r3)) hd ⟨Nat.le_trans r4 hR.2.2.1, Nat.le_trans r5 hR.2.2.2⟩) hY.2.1 hY.2.2.1 C.2.2.2.2.2.2.2.2.2.1 (fun r rc h' al' ws' H1 locs1 hO hx1 hp hY1 => ?_)
  refine hp p l e R s m args below meth c D ro A al0 Q C hH al' ws' H1 locs1 ls _ (hx.tr hx1) hY1 (mLv_ext hx1 hL) ?_
  match r, rc, hO with
  | none, none, _ => exact mL_ext hx1 hs2
  | some v, some w, hO => exact ⟨hO, mL_ext hx1 hs2⟩
theorem mj_init {idx n a : Nat} {J' : mM} {d' : Nat × Nat} {mc ms : Nat} {As st0 : List Value} (hd : decode J.2.1 pc = .ok (.invokespecial idx, 3)) (hi : J'.1.name = "<init>") (hr0 : J'.2.2.2 = none) (hw : mCw J' n) (hl : Cond.methodLink J.1.cls idx J'.1 ∈ mWS ∨ ∃ host, Cond.methodLinkNest J.1.cls idx J'.1 host ∈ mWN) (hin : Cond.instanceMethod J'.1 ∈ mWS) (hn : As.length = n) (h0 : st0 = As.reverse ++ .ref a :: st) (hrm : mRoom d d' J' st cn sn mc ms MC MS)
    (kk : mMet J' L xs d' mc ms (.ref a :: As) h (fun r h' => mGo J L xs d MC MS Post (cn + mc) (sn + ms) (pc + 3) lv (r.toList ++ st) h')) : mGo J L xs d MC MS Post cn sn pc lv st0 h := by
  intro p l e R s m args below meth c D ro A al0 Q C hH al ws H locs ls sC hx hY hL hs
  subst h0
  obtain ⟨AR, rC0, rfl, hs1, hs2⟩ := mL_app hs
  obtain ⟨a', c', rC, rfl, ha, hs2⟩ := mL_r hs2
  have hAC : mL ro al As AR.reverse := by have := mL_rev hs1; rw [List.reverse_reverse] at this; exact this
  have hsz : ls.size = J.2.2.1 := by obtain ⟨-, lc, q1, -⟩ := hL; exact q1.1
  obtain ⟨r1, r2, r3, r4, r5⟩ := hrm
  have hR := C.2.2.2.2.2.2.2.2.2.2
  have hpre := mPre (args := args) (AC := .ref a' :: AR.reverse) C.2.2.2.2.2.2.2.1 C.2.2.2.2.2.2.2.2.1 C.2.2.2.2.2.2.2.2.2.1 hY
  have hA2 : mL ro al (.ref a :: As) (.ref a' :: AR.reverse) := ⟨by simp [mF, ha], hAC⟩
  have hgo : ∀ (r rc : Option Value) (h' : mHeap) (al' : mAl) (ws' : va_W) (H1 : Heap) (locs1 : List Loc), mO ro al' r rc → mExt al al' → mGo J L xs d MC MS Post (cn + mc) (sn + ms) (pc + 3) lv (r.toList ++ st) h' → mDyn ro A s D al' ws' H1 locs1 h' → W p l e R s m args below meth c H1 locs1 (cn + mc) (sn + ms) Q (F0 m (pc + 3) ls (rc.toList ++ rC)) := by
    intro r rc h' al' ws' H1 locs1 hO hx1 hp hY1
    refine hp p l e R s m args below meth c D ro A al0 Q C hH al' ws' H1 locs1 ls _ (hx.tr hx1) hY1 (mLv_ext hx1 hL) ?_
    match r, rc, hO with
    | none, none, _ => exact mL_ext hx1 hs2
    | some v, some w, hO => exact ⟨hO, mL_ext hx1 hs2⟩
  obtain ⟨J1, J2, J3, J4⟩ := J'
  cases hr0
  rcases hl with hl | ⟨host, hl⟩
  · exact ma_call (va_runI (As := AR.reverse) (rest := rC) (n := n) ⟨C.1, C.2.1, C.2.2.2.1, C.2.2.2.2.1, C.2.2.2.2.2.1⟩ (kk l D ro al ws (.ref a' :: AR.reverse) H.size hA2) ⟨callB_of n C.2.2.2.2.2.1 (mWs_good hw.1) rfl rfl rfl (C.2.2.2.2.2.1 _ hw.2.1) (C.2.2.2.2.2.1 _ hl) hw.2.2 ⟨Nat.le_trans r1 hR.1, Nat.le_trans r2 hR.2.1⟩, hi, C.2.2.2.2.2.1 _ hin⟩ hpre rfl (by rw [mL_len hAC]; exact hn) hsz (by rw [List.reverse_reverse]) (lv_room (by rw [mL_catsum hs2]; exact r3)) hd ⟨Nat.le_trans r4 hR.2.2.1, Nat.le_trans r5 hR.2.2.2⟩) hY.2.1 hY.2.2.1 C.2.2.2.2.2.2.2.2.2.1 hgo
  · exact ma_call (va_runIN (As := AR.reverse) (rest := rC) (n := n) ⟨C.1, C.2.1, C.2.2.2.1, C.2.2.2.2.1, C.2.2.2.2.2.1⟩ (kk l D ro al ws (.ref a' :: AR.reverse) H.size hA2) ⟨va_cnB n C.2.2.2.2.2.1 (mWs_good hw.1) rfl rfl rfl (C.2.2.2.2.2.2.2.1.2 _ hl) (C.2.2.2.2.2.1 _ hw.2.1) hw.2.2 ⟨Nat.le_trans r1 hR.1, Nat.le_trans r2 hR.2.1⟩, hi, C.2.2.2.2.2.1 _ hin⟩ hpre rfl (by rw [mL_len hAC]; exact hn) hsz (by rw [List.reverse_reverse]) (lv_room (by rw [mL_catsum hs2]; exact r3)) hd ⟨Nat.le_trans r4 hR.2.2.1, Nat.le_trans r5 hR.2.2.2⟩) hY.2.1 hY.2.2.1 C.2.2.2.2.2.2.2.2.2.1 hgo
end MJ3
end
