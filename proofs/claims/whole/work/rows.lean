section
-- ===== PART A: goes FIRST, ahead of the names: the tables' words, and 'selects' of the private methods out of them =====
/-- a private method of a class that the tables say can be made, by its rows of tables_1 -/
def lw_okq (q : MethodName × Nat) : Prop := (q.1.cls ≠ "java/lang/invoke/MethodHandle" ∧ q.1.cls ≠ "java/lang/invoke/VarHandle") ∧ Cond.instantiable q.1.cls q.2 ∈ tables_1 ∧ Cond.privateMethod q.1 ∈ tables_1 ∧ Cond.instanceMethod q.1 ∈ tables_1
theorem lw_p0 : lw_okq (⟨"HornBridge", "isTray", "(I)Z"⟩, 18) := ⟨⟨by decide +kernel, by decide +kernel⟩, List.mem_of_getElem? (i := 24) (by decide +kernel), List.mem_of_getElem? (i := 383) (by decide +kernel), List.mem_of_getElem? (i := 384) (by decide +kernel)⟩
theorem lw_p1 : lw_okq (⟨"HornBridge", "deny", "(I)Z"⟩, 18) := ⟨⟨by decide +kernel, by decide +kernel⟩, List.mem_of_getElem? (i := 24) (by decide +kernel), List.mem_of_getElem? (i := 387) (by decide +kernel), List.mem_of_getElem? (i := 388) (by decide +kernel)⟩
theorem lw_p2 : lw_okq (⟨"HornBridge$Tray", "lay", "(II)V"⟩, 3) := ⟨⟨by decide +kernel, by decide +kernel⟩, List.mem_of_getElem? (i := 294) (by decide +kernel), List.mem_of_getElem? (i := 391) (by decide +kernel), List.mem_of_getElem? (i := 392) (by decide +kernel)⟩
theorem lw_p3 : lw_okq (⟨"HornBridge", "grant", "()Z"⟩, 18) := ⟨⟨by decide +kernel, by decide +kernel⟩, List.mem_of_getElem? (i := 24) (by decide +kernel), List.mem_of_getElem? (i := 395) (by decide +kernel), List.mem_of_getElem? (i := 396) (by decide +kernel)⟩
theorem lw_p4 : lw_okq (⟨"HornBridge", "wrongPlace", "(II)I"⟩, 18) := ⟨⟨by decide +kernel, by decide +kernel⟩, List.mem_of_getElem? (i := 24) (by decide +kernel), List.mem_of_getElem? (i := 403) (by decide +kernel), List.mem_of_getElem? (i := 404) (by decide +kernel)⟩
theorem lw_p5 : lw_okq (⟨"HornBridge$Tray", "isMissing", "()Z"⟩, 3) := ⟨⟨by decide +kernel, by decide +kernel⟩, List.mem_of_getElem? (i := 294) (by decide +kernel), List.mem_of_getElem? (i := 407) (by decide +kernel), List.mem_of_getElem? (i := 408) (by decide +kernel)⟩
theorem lw_p6 : lw_okq (⟨"HornBridge$Tray", "hasStretch", "(II)Z"⟩, 3) := ⟨⟨by decide +kernel, by decide +kernel⟩, List.mem_of_getElem? (i := 294) (by decide +kernel), List.mem_of_getElem? (i := 411) (by decide +kernel), List.mem_of_getElem? (i := 412) (by decide +kernel)⟩
theorem lw_p7 : lw_okq (⟨"HornBridge$Tray", "put", "(IJ)V"⟩, 3) := ⟨⟨by decide +kernel, by decide +kernel⟩, List.mem_of_getElem? (i := 294) (by decide +kernel), List.mem_of_getElem? (i := 415) (by decide +kernel), List.mem_of_getElem? (i := 416) (by decide +kernel)⟩
theorem lw_p8 : lw_okq (⟨"HornBridge", "refuse", "(I)I"⟩, 18) := ⟨⟨by decide +kernel, by decide +kernel⟩, List.mem_of_getElem? (i := 24) (by decide +kernel), List.mem_of_getElem? (i := 423) (by decide +kernel), List.mem_of_getElem? (i := 424) (by decide +kernel)⟩
theorem lw_p9 : lw_okq (⟨"HornBridge", "answerLong", "(J)J"⟩, 18) := ⟨⟨by decide +kernel, by decide +kernel⟩, List.mem_of_getElem? (i := 24) (by decide +kernel), List.mem_of_getElem? (i := 427) (by decide +kernel), List.mem_of_getElem? (i := 428) (by decide +kernel)⟩
theorem lw_p10 : lw_okq (⟨"HornBridge", "feedOne", "(I)V"⟩, 18) := ⟨⟨by decide +kernel, by decide +kernel⟩, List.mem_of_getElem? (i := 24) (by decide +kernel), List.mem_of_getElem? (i := 442) (by decide +kernel), List.mem_of_getElem? (i := 443) (by decide +kernel)⟩
theorem lw_p11 : lw_okq (⟨"HornBridge$Tokens", "step", "()V"⟩, 12) := ⟨⟨by decide +kernel, by decide +kernel⟩, List.mem_of_getElem? (i := 452) (by decide +kernel), List.mem_of_getElem? (i := 461) (by decide +kernel), List.mem_of_getElem? (i := 462) (by decide +kernel)⟩
theorem lw_p12 : lw_okq (⟨"HornBridge$Tokens", "stepWord", "()V"⟩, 12) := ⟨⟨by decide +kernel, by decide +kernel⟩, List.mem_of_getElem? (i := 452) (by decide +kernel), List.mem_of_getElem? (i := 465) (by decide +kernel), List.mem_of_getElem? (i := 466) (by decide +kernel)⟩
theorem lw_p13 : lw_okq (⟨"HornBridge$Tokens", "stepNumber", "()V"⟩, 12) := ⟨⟨by decide +kernel, by decide +kernel⟩, List.mem_of_getElem? (i := 452) (by decide +kernel), List.mem_of_getElem? (i := 472) (by decide +kernel), List.mem_of_getElem? (i := 473) (by decide +kernel)⟩
theorem lw_p14 : lw_okq (⟨"HornBridge$RiverReader", "readAll", "()Z"⟩, 8) := ⟨⟨by decide +kernel, by decide +kernel⟩, List.mem_of_getElem? (i := 450) (by decide +kernel), List.mem_of_getElem? (i := 558) (by decide +kernel), List.mem_of_getElem? (i := 559) (by decide +kernel)⟩
theorem lw_p15 : lw_okq (⟨"HornBridge$RiverReader", "readPort", "()Z"⟩, 8) := ⟨⟨by decide +kernel, by decide +kernel⟩, List.mem_of_getElem? (i := 450) (by decide +kernel), List.mem_of_getElem? (i := 564) (by decide +kernel), List.mem_of_getElem? (i := 565) (by decide +kernel)⟩
def lw_privs_1 : List (MethodName × Nat) := [(⟨"HornBridge", "isTray", "(I)Z"⟩, 18), (⟨"HornBridge", "deny", "(I)Z"⟩, 18), (⟨"HornBridge$Tray", "lay", "(II)V"⟩, 3), (⟨"HornBridge", "grant", "()Z"⟩, 18), (⟨"HornBridge", "wrongPlace", "(II)I"⟩, 18), (⟨"HornBridge$Tray", "isMissing", "()Z"⟩, 3), (⟨"HornBridge$Tray", "hasStretch", "(II)Z"⟩, 3), (⟨"HornBridge$Tray", "put", "(IJ)V"⟩, 3), (⟨"HornBridge", "refuse", "(I)I"⟩, 18), (⟨"HornBridge", "answerLong", "(J)J"⟩, 18), (⟨"HornBridge", "feedOne", "(I)V"⟩, 18), (⟨"HornBridge$Tokens", "step", "()V"⟩, 12), (⟨"HornBridge$Tokens", "stepWord", "()V"⟩, 12), (⟨"HornBridge$Tokens", "stepNumber", "()V"⟩, 12), (⟨"HornBridge$RiverReader", "readAll", "()Z"⟩, 8), (⟨"HornBridge$RiverReader", "readPort", "()Z"⟩, 8)]
theorem lw_r1 : ∀ q ∈ lw_privs_1, lw_okq q := List.forall_mem_cons.mpr ⟨lw_p0, List.forall_mem_cons.mpr ⟨lw_p1, List.forall_mem_cons.mpr ⟨lw_p2, List.forall_mem_cons.mpr ⟨lw_p3, List.forall_mem_cons.mpr ⟨lw_p4, List.forall_mem_cons.mpr ⟨lw_p5, List.forall_mem_cons.mpr ⟨lw_p6, List.forall_mem_cons.mpr ⟨lw_p7, List.forall_mem_cons.mpr ⟨lw_p8, List.forall_mem_cons.mpr ⟨lw_p9, List.forall_mem_cons.mpr ⟨lw_p10, List.forall_mem_cons.mpr ⟨lw_p11, List.forall_mem_cons.mpr ⟨lw_p12, List.forall_mem_cons.mpr ⟨lw_p13, List.forall_mem_cons.mpr ⟨lw_p14, List.forall_mem_cons.mpr ⟨lw_p15, fun _ h => absurd h List.not_mem_nil⟩⟩⟩⟩⟩⟩⟩⟩⟩⟩⟩⟩⟩⟩⟩⟩
theorem lw_p16 : lw_okq (⟨"HornBridge$Tokens", "refuseToken", "(I)Z"⟩, 12) := ⟨⟨by decide +kernel, by decide +kernel⟩, List.mem_of_getElem? (i := 452) (by decide +kernel), List.mem_of_getElem? (i := 568) (by decide +kernel), List.mem_of_getElem? (i := 569) (by decide +kernel)⟩
theorem lw_p17 : lw_okq (⟨"HornBridge$RiverReader", "takeNewName", "()Z"⟩, 8) := ⟨⟨by decide +kernel, by decide +kernel⟩, List.mem_of_getElem? (i := 450) (by decide +kernel), List.mem_of_getElem? (i := 573) (by decide +kernel), List.mem_of_getElem? (i := 574) (by decide +kernel)⟩
theorem lw_p18 : lw_okq (⟨"HornBridge$Tokens", "isName", "()Z"⟩, 12) := ⟨⟨by decide +kernel, by decide +kernel⟩, List.mem_of_getElem? (i := 452) (by decide +kernel), List.mem_of_getElem? (i := 577) (by decide +kernel), List.mem_of_getElem? (i := 578) (by decide +kernel)⟩
theorem lw_p19 : lw_okq (⟨"HornBridge$Tokens", "takeKeyword", "(LHornBridge$Keyword;)Z"⟩, 12) := ⟨⟨by decide +kernel, by decide +kernel⟩, List.mem_of_getElem? (i := 452) (by decide +kernel), List.mem_of_getElem? (i := 583) (by decide +kernel), List.mem_of_getElem? (i := 584) (by decide +kernel)⟩
theorem lw_p20 : lw_okq (⟨"HornBridge$Tokens", "isBlasts", "()Z"⟩, 12) := ⟨⟨by decide +kernel, by decide +kernel⟩, List.mem_of_getElem? (i := 452) (by decide +kernel), List.mem_of_getElem? (i := 588) (by decide +kernel), List.mem_of_getElem? (i := 589) (by decide +kernel)⟩
theorem lw_p21 : lw_okq (⟨"HornBridge$RiverReader", "readTurns", "()Z"⟩, 8) := ⟨⟨by decide +kernel, by decide +kernel⟩, List.mem_of_getElem? (i := 450) (by decide +kernel), List.mem_of_getElem? (i := 600) (by decide +kernel), List.mem_of_getElem? (i := 601) (by decide +kernel)⟩
theorem lw_p22 : lw_okq (⟨"HornBridge$Tokens", "takeNumber", "(II)Z"⟩, 12) := ⟨⟨by decide +kernel, by decide +kernel⟩, List.mem_of_getElem? (i := 452) (by decide +kernel), List.mem_of_getElem? (i := 604) (by decide +kernel), List.mem_of_getElem? (i := 605) (by decide +kernel)⟩
theorem lw_p23 : lw_okq (⟨"HornBridge$RiverReader", "readFrost", "()Z"⟩, 8) := ⟨⟨by decide +kernel, by decide +kernel⟩, List.mem_of_getElem? (i := 450) (by decide +kernel), List.mem_of_getElem? (i := 610) (by decide +kernel), List.mem_of_getElem? (i := 611) (by decide +kernel)⟩
theorem lw_p24 : lw_okq (⟨"HornBridge$RiverReader", "readEcho", "()Z"⟩, 8) := ⟨⟨by decide +kernel, by decide +kernel⟩, List.mem_of_getElem? (i := 450) (by decide +kernel), List.mem_of_getElem? (i := 618) (by decide +kernel), List.mem_of_getElem? (i := 619) (by decide +kernel)⟩
theorem lw_p25 : lw_okq (⟨"HornBridge$RiverReader", "readShip", "()Z"⟩, 8) := ⟨⟨by decide +kernel, by decide +kernel⟩, List.mem_of_getElem? (i := 450) (by decide +kernel), List.mem_of_getElem? (i := 624) (by decide +kernel), List.mem_of_getElem? (i := 625) (by decide +kernel)⟩
theorem lw_p26 : lw_okq (⟨"HornBridge$RiverReader", "portNamed", "(J)I"⟩, 8) := ⟨⟨by decide +kernel, by decide +kernel⟩, List.mem_of_getElem? (i := 450) (by decide +kernel), List.mem_of_getElem? (i := 630) (by decide +kernel), List.mem_of_getElem? (i := 631) (by decide +kernel)⟩
theorem lw_p27 : lw_okq (⟨"HornBridge$RiverReader", "readComing", "(LHornBridge$Lane;)Z"⟩, 8) := ⟨⟨by decide +kernel, by decide +kernel⟩, List.mem_of_getElem? (i := 450) (by decide +kernel), List.mem_of_getElem? (i := 634) (by decide +kernel), List.mem_of_getElem? (i := 635) (by decide +kernel)⟩
theorem lw_p28 : lw_okq (⟨"HornBridge$Lane", "put", "(IIIIIZ)V"⟩, 6) := ⟨⟨by decide +kernel, by decide +kernel⟩, List.mem_of_getElem? (i := 40) (by decide +kernel), List.mem_of_getElem? (i := 644) (by decide +kernel), List.mem_of_getElem? (i := 645) (by decide +kernel)⟩
theorem lw_p29 : lw_okq (⟨"HornBridge$RiverReader", "readCart", "()Z"⟩, 8) := ⟨⟨by decide +kernel, by decide +kernel⟩, List.mem_of_getElem? (i := 450) (by decide +kernel), List.mem_of_getElem? (i := 652) (by decide +kernel), List.mem_of_getElem? (i := 653) (by decide +kernel)⟩
theorem lw_p30 : lw_okq (⟨"HornBridge$Tokens", "takeSign", "(C)Z"⟩, 12) := ⟨⟨by decide +kernel, by decide +kernel⟩, List.mem_of_getElem? (i := 452) (by decide +kernel), List.mem_of_getElem? (i := 656) (by decide +kernel), List.mem_of_getElem? (i := 657) (by decide +kernel)⟩
theorem lw_p31 : lw_okq (⟨"HornBridge$Tokens", "isSignOf", "(C)Z"⟩, 12) := ⟨⟨by decide +kernel, by decide +kernel⟩, List.mem_of_getElem? (i := 452) (by decide +kernel), List.mem_of_getElem? (i := 660) (by decide +kernel), List.mem_of_getElem? (i := 661) (by decide +kernel)⟩
def lw_privs_2 : List (MethodName × Nat) := [(⟨"HornBridge$Tokens", "refuseToken", "(I)Z"⟩, 12), (⟨"HornBridge$RiverReader", "takeNewName", "()Z"⟩, 8), (⟨"HornBridge$Tokens", "isName", "()Z"⟩, 12), (⟨"HornBridge$Tokens", "takeKeyword", "(LHornBridge$Keyword;)Z"⟩, 12), (⟨"HornBridge$Tokens", "isBlasts", "()Z"⟩, 12), (⟨"HornBridge$RiverReader", "readTurns", "()Z"⟩, 8), (⟨"HornBridge$Tokens", "takeNumber", "(II)Z"⟩, 12), (⟨"HornBridge$RiverReader", "readFrost", "()Z"⟩, 8), (⟨"HornBridge$RiverReader", "readEcho", "()Z"⟩, 8), (⟨"HornBridge$RiverReader", "readShip", "()Z"⟩, 8), (⟨"HornBridge$RiverReader", "portNamed", "(J)I"⟩, 8), (⟨"HornBridge$RiverReader", "readComing", "(LHornBridge$Lane;)Z"⟩, 8), (⟨"HornBridge$Lane", "put", "(IIIIIZ)V"⟩, 6), (⟨"HornBridge$RiverReader", "readCart", "()Z"⟩, 8), (⟨"HornBridge$Tokens", "takeSign", "(C)Z"⟩, 12), (⟨"HornBridge$Tokens", "isSignOf", "(C)Z"⟩, 12)]
theorem lw_r2 : ∀ q ∈ lw_privs_2, lw_okq q := List.forall_mem_cons.mpr ⟨lw_p16, List.forall_mem_cons.mpr ⟨lw_p17, List.forall_mem_cons.mpr ⟨lw_p18, List.forall_mem_cons.mpr ⟨lw_p19, List.forall_mem_cons.mpr ⟨lw_p20, List.forall_mem_cons.mpr ⟨lw_p21, List.forall_mem_cons.mpr ⟨lw_p22, List.forall_mem_cons.mpr ⟨lw_p23, List.forall_mem_cons.mpr ⟨lw_p24, List.forall_mem_cons.mpr ⟨lw_p25, List.forall_mem_cons.mpr ⟨lw_p26, List.forall_mem_cons.mpr ⟨lw_p27, List.forall_mem_cons.mpr ⟨lw_p28, List.forall_mem_cons.mpr ⟨lw_p29, List.forall_mem_cons.mpr ⟨lw_p30, List.forall_mem_cons.mpr ⟨lw_p31, fun _ h => absurd h List.not_mem_nil⟩⟩⟩⟩⟩⟩⟩⟩⟩⟩⟩⟩⟩⟩⟩⟩
theorem lw_p32 : lw_okq (⟨"HornBridge", "endText", "(LHornBridge$Tokens;)V"⟩, 18) := ⟨⟨by decide +kernel, by decide +kernel⟩, List.mem_of_getElem? (i := 24) (by decide +kernel), List.mem_of_getElem? (i := 664) (by decide +kernel), List.mem_of_getElem? (i := 665) (by decide +kernel)⟩
theorem lw_p33 : lw_okq (⟨"HornBridge", "answer", "(I)I"⟩, 18) := ⟨⟨by decide +kernel, by decide +kernel⟩, List.mem_of_getElem? (i := 24) (by decide +kernel), List.mem_of_getElem? (i := 668) (by decide +kernel), List.mem_of_getElem? (i := 669) (by decide +kernel)⟩
theorem lw_p34 : lw_okq (⟨"HornBridge$RulesReader", "readAll", "()Z"⟩, 3) := ⟨⟨by decide +kernel, by decide +kernel⟩, List.mem_of_getElem? (i := 676) (by decide +kernel), List.mem_of_getElem? (i := 726) (by decide +kernel), List.mem_of_getElem? (i := 727) (by decide +kernel)⟩
theorem lw_p35 : lw_okq (⟨"HornBridge$RulesReader", "readRule", "()Z"⟩, 3) := ⟨⟨by decide +kernel, by decide +kernel⟩, List.mem_of_getElem? (i := 676) (by decide +kernel), List.mem_of_getElem? (i := 730) (by decide +kernel), List.mem_of_getElem? (i := 731) (by decide +kernel)⟩
theorem lw_p36 : lw_okq (⟨"HornBridge$RulesReader", "readEither", "(I)Z"⟩, 3) := ⟨⟨by decide +kernel, by decide +kernel⟩, List.mem_of_getElem? (i := 676) (by decide +kernel), List.mem_of_getElem? (i := 738) (by decide +kernel), List.mem_of_getElem? (i := 739) (by decide +kernel)⟩
theorem lw_p37 : lw_okq (⟨"HornBridge$RulesReader", "readBoth", "(I)Z"⟩, 3) := ⟨⟨by decide +kernel, by decide +kernel⟩, List.mem_of_getElem? (i := 676) (by decide +kernel), List.mem_of_getElem? (i := 742) (by decide +kernel), List.mem_of_getElem? (i := 743) (by decide +kernel)⟩
theorem lw_p38 : lw_okq (⟨"HornBridge$RulesReader", "readOne", "(I)Z"⟩, 3) := ⟨⟨by decide +kernel, by decide +kernel⟩, List.mem_of_getElem? (i := 676) (by decide +kernel), List.mem_of_getElem? (i := 746) (by decide +kernel), List.mem_of_getElem? (i := 747) (by decide +kernel)⟩
theorem lw_p39 : lw_okq (⟨"HornBridge$RulesReader", "factTold", "()I"⟩, 3) := ⟨⟨by decide +kernel, by decide +kernel⟩, List.mem_of_getElem? (i := 676) (by decide +kernel), List.mem_of_getElem? (i := 753) (by decide +kernel), List.mem_of_getElem? (i := 754) (by decide +kernel)⟩
theorem lw_p40 : lw_okq (⟨"HornBridge$RulesReader", "readNested", "(I)Z"⟩, 3) := ⟨⟨by decide +kernel, by decide +kernel⟩, List.mem_of_getElem? (i := 676) (by decide +kernel), List.mem_of_getElem? (i := 771) (by decide +kernel), List.mem_of_getElem? (i := 772) (by decide +kernel)⟩
theorem lw_p41 : lw_okq (⟨"HornBridge$Rules", "addStep", "(III)V"⟩, 7) := ⟨⟨by decide +kernel, by decide +kernel⟩, List.mem_of_getElem? (i := 677) (by decide +kernel), List.mem_of_getElem? (i := 777) (by decide +kernel), List.mem_of_getElem? (i := 778) (by decide +kernel)⟩
theorem lw_p42 : lw_okq (⟨"HornBridge$RulesReader", "readCase", "(I)Z"⟩, 3) := ⟨⟨by decide +kernel, by decide +kernel⟩, List.mem_of_getElem? (i := 676) (by decide +kernel), List.mem_of_getElem? (i := 781) (by decide +kernel), List.mem_of_getElem? (i := 782) (by decide +kernel)⟩
theorem lw_p43 : lw_okq (⟨"HornBridge$RulesReader", "comparesTold", "()I"⟩, 3) := ⟨⟨by decide +kernel, by decide +kernel⟩, List.mem_of_getElem? (i := 676) (by decide +kernel), List.mem_of_getElem? (i := 785) (by decide +kernel), List.mem_of_getElem? (i := 786) (by decide +kernel)⟩
theorem lw_p44 : lw_okq (⟨"HornBridge$RulesReader", "actTold", "()I"⟩, 3) := ⟨⟨by decide +kernel, by decide +kernel⟩, List.mem_of_getElem? (i := 676) (by decide +kernel), List.mem_of_getElem? (i := 796) (by decide +kernel), List.mem_of_getElem? (i := 797) (by decide +kernel)⟩
theorem lw_p45 : lw_okq (⟨"HornBridge$Rules", "endRule", "(I)V"⟩, 7) := ⟨⟨by decide +kernel, by decide +kernel⟩, List.mem_of_getElem? (i := 677) (by decide +kernel), List.mem_of_getElem? (i := 802) (by decide +kernel), List.mem_of_getElem? (i := 803) (by decide +kernel)⟩
theorem lw_p46 : lw_okq (⟨"HornBridge", "isShip", "(I)Z"⟩, 18) := ⟨⟨by decide +kernel, by decide +kernel⟩, List.mem_of_getElem? (i := 24) (by decide +kernel), List.mem_of_getElem? (i := 818) (by decide +kernel), List.mem_of_getElem? (i := 819) (by decide +kernel)⟩
theorem lw_p47 : lw_okq (⟨"HornBridge", "isCart", "(I)Z"⟩, 18) := ⟨⟨by decide +kernel, by decide +kernel⟩, List.mem_of_getElem? (i := 24) (by decide +kernel), List.mem_of_getElem? (i := 826) (by decide +kernel), List.mem_of_getElem? (i := 827) (by decide +kernel)⟩
def lw_privs_3 : List (MethodName × Nat) := [(⟨"HornBridge", "endText", "(LHornBridge$Tokens;)V"⟩, 18), (⟨"HornBridge", "answer", "(I)I"⟩, 18), (⟨"HornBridge$RulesReader", "readAll", "()Z"⟩, 3), (⟨"HornBridge$RulesReader", "readRule", "()Z"⟩, 3), (⟨"HornBridge$RulesReader", "readEither", "(I)Z"⟩, 3), (⟨"HornBridge$RulesReader", "readBoth", "(I)Z"⟩, 3), (⟨"HornBridge$RulesReader", "readOne", "(I)Z"⟩, 3), (⟨"HornBridge$RulesReader", "factTold", "()I"⟩, 3), (⟨"HornBridge$RulesReader", "readNested", "(I)Z"⟩, 3), (⟨"HornBridge$Rules", "addStep", "(III)V"⟩, 7), (⟨"HornBridge$RulesReader", "readCase", "(I)Z"⟩, 3), (⟨"HornBridge$RulesReader", "comparesTold", "()I"⟩, 3), (⟨"HornBridge$RulesReader", "actTold", "()I"⟩, 3), (⟨"HornBridge$Rules", "endRule", "(I)V"⟩, 7), (⟨"HornBridge", "isShip", "(I)Z"⟩, 18), (⟨"HornBridge", "isCart", "(I)Z"⟩, 18)]
theorem lw_r3 : ∀ q ∈ lw_privs_3, lw_okq q := List.forall_mem_cons.mpr ⟨lw_p32, List.forall_mem_cons.mpr ⟨lw_p33, List.forall_mem_cons.mpr ⟨lw_p34, List.forall_mem_cons.mpr ⟨lw_p35, List.forall_mem_cons.mpr ⟨lw_p36, List.forall_mem_cons.mpr ⟨lw_p37, List.forall_mem_cons.mpr ⟨lw_p38, List.forall_mem_cons.mpr ⟨lw_p39, List.forall_mem_cons.mpr ⟨lw_p40, List.forall_mem_cons.mpr ⟨lw_p41, List.forall_mem_cons.mpr ⟨lw_p42, List.forall_mem_cons.mpr ⟨lw_p43, List.forall_mem_cons.mpr ⟨lw_p44, List.forall_mem_cons.mpr ⟨lw_p45, List.forall_mem_cons.mpr ⟨lw_p46, List.forall_mem_cons.mpr ⟨lw_p47, fun _ h => absurd h List.not_mem_nil⟩⟩⟩⟩⟩⟩⟩⟩⟩⟩⟩⟩⟩⟩⟩⟩
theorem lw_p48 : lw_okq (⟨"HornBridge$Crossing", "takeShips", "(LHornBridge$River;III)V"⟩, 12) := ⟨⟨by decide +kernel, by decide +kernel⟩, List.mem_of_getElem? (i := 180) (by decide +kernel), List.mem_of_getElem? (i := 834) (by decide +kernel), List.mem_of_getElem? (i := 835) (by decide +kernel)⟩
theorem lw_p49 : lw_okq (⟨"HornBridge$Lane", "clear", "()V"⟩, 6) := ⟨⟨by decide +kernel, by decide +kernel⟩, List.mem_of_getElem? (i := 40) (by decide +kernel), List.mem_of_getElem? (i := 838) (by decide +kernel), List.mem_of_getElem? (i := 839) (by decide +kernel)⟩
theorem lw_p50 : lw_okq (⟨"HornBridge$Lane", "join", "(LHornBridge$Lane;II)V"⟩, 6) := ⟨⟨by decide +kernel, by decide +kernel⟩, List.mem_of_getElem? (i := 40) (by decide +kernel), List.mem_of_getElem? (i := 842) (by decide +kernel), List.mem_of_getElem? (i := 843) (by decide +kernel)⟩
theorem lw_p51 : lw_okq (⟨"HornBridge$Crossing", "takeCarts", "(LHornBridge$River;I)V"⟩, 12) := ⟨⟨by decide +kernel, by decide +kernel⟩, List.mem_of_getElem? (i := 180) (by decide +kernel), List.mem_of_getElem? (i := 851) (by decide +kernel), List.mem_of_getElem? (i := 852) (by decide +kernel)⟩
theorem lw_p52 : lw_okq (⟨"HornBridge", "isPort", "(I)Z"⟩, 18) := ⟨⟨by decide +kernel, by decide +kernel⟩, List.mem_of_getElem? (i := 24) (by decide +kernel), List.mem_of_getElem? (i := 859) (by decide +kernel), List.mem_of_getElem? (i := 860) (by decide +kernel)⟩
theorem lw_p53 : lw_okq (⟨"HornBridge$River", "heardOf", "(I)J"⟩, 10) := ⟨⟨by decide +kernel, by decide +kernel⟩, List.mem_of_getElem? (i := 34) (by decide +kernel), List.mem_of_getElem? (i := 867) (by decide +kernel), List.mem_of_getElem? (i := 868) (by decide +kernel)⟩
theorem lw_p54 : lw_okq (⟨"HornBridge$River", "bothHeard", "(III)J"⟩, 10) := ⟨⟨by decide +kernel, by decide +kernel⟩, List.mem_of_getElem? (i := 34) (by decide +kernel), List.mem_of_getElem? (i := 878) (by decide +kernel), List.mem_of_getElem? (i := 879) (by decide +kernel)⟩
theorem lw_p55 : lw_okq (⟨"HornBridge", "addReading", "(III)V"⟩, 18) := ⟨⟨by decide +kernel, by decide +kernel⟩, List.mem_of_getElem? (i := 24) (by decide +kernel), List.mem_of_getElem? (i := 908) (by decide +kernel), List.mem_of_getElem? (i := 909) (by decide +kernel)⟩
theorem lw_p56 : lw_okq (⟨"HornBridge$River", "leastBeats", "(II)I"⟩, 10) := ⟨⟨by decide +kernel, by decide +kernel⟩, List.mem_of_getElem? (i := 34) (by decide +kernel), List.mem_of_getElem? (i := 912) (by decide +kernel), List.mem_of_getElem? (i := 913) (by decide +kernel)⟩
theorem lw_p57 : lw_okq (⟨"HornBridge$River", "countReadings", "(JI)I"⟩, 10) := ⟨⟨by decide +kernel, by decide +kernel⟩, List.mem_of_getElem? (i := 34) (by decide +kernel), List.mem_of_getElem? (i := 924) (by decide +kernel), List.mem_of_getElem? (i := 925) (by decide +kernel)⟩
theorem lw_p58 : lw_okq (⟨"HornBridge$River", "countBeats", "(JII)I"⟩, 10) := ⟨⟨by decide +kernel, by decide +kernel⟩, List.mem_of_getElem? (i := 34) (by decide +kernel), List.mem_of_getElem? (i := 928) (by decide +kernel), List.mem_of_getElem? (i := 929) (by decide +kernel)⟩
theorem lw_p59 : lw_okq (⟨"HornBridge", "tellFraction", "(II)V"⟩, 18) := ⟨⟨by decide +kernel, by decide +kernel⟩, List.mem_of_getElem? (i := 24) (by decide +kernel), List.mem_of_getElem? (i := 934) (by decide +kernel), List.mem_of_getElem? (i := 935) (by decide +kernel)⟩
theorem lw_p60 : lw_okq (⟨"HornBridge$River", "couplesAlike", "(I)I"⟩, 10) := ⟨⟨by decide +kernel, by decide +kernel⟩, List.mem_of_getElem? (i := 34) (by decide +kernel), List.mem_of_getElem? (i := 945) (by decide +kernel), List.mem_of_getElem? (i := 946) (by decide +kernel)⟩
theorem lw_p61 : lw_okq (⟨"HornBridge$CodeSearch", "find", "(III)Z"⟩, 7) := ⟨⟨by decide +kernel, by decide +kernel⟩, List.mem_of_getElem? (i := 147) (by decide +kernel), List.mem_of_getElem? (i := 953) (by decide +kernel), List.mem_of_getElem? (i := 954) (by decide +kernel)⟩
theorem lw_p62 : lw_okq (⟨"HornBridge$CodeSearch", "extend", "(IIII)Z"⟩, 7) := ⟨⟨by decide +kernel, by decide +kernel⟩, List.mem_of_getElem? (i := 147) (by decide +kernel), List.mem_of_getElem? (i := 959) (by decide +kernel), List.mem_of_getElem? (i := 960) (by decide +kernel)⟩
theorem lw_p63 : lw_okq (⟨"HornBridge$CodeSearch", "fitsLast", "(I)Z"⟩, 7) := ⟨⟨by decide +kernel, by decide +kernel⟩, List.mem_of_getElem? (i := 147) (by decide +kernel), List.mem_of_getElem? (i := 963) (by decide +kernel), List.mem_of_getElem? (i := 964) (by decide +kernel)⟩
def lw_privs_4 : List (MethodName × Nat) := [(⟨"HornBridge$Crossing", "takeShips", "(LHornBridge$River;III)V"⟩, 12), (⟨"HornBridge$Lane", "clear", "()V"⟩, 6), (⟨"HornBridge$Lane", "join", "(LHornBridge$Lane;II)V"⟩, 6), (⟨"HornBridge$Crossing", "takeCarts", "(LHornBridge$River;I)V"⟩, 12), (⟨"HornBridge", "isPort", "(I)Z"⟩, 18), (⟨"HornBridge$River", "heardOf", "(I)J"⟩, 10), (⟨"HornBridge$River", "bothHeard", "(III)J"⟩, 10), (⟨"HornBridge", "addReading", "(III)V"⟩, 18), (⟨"HornBridge$River", "leastBeats", "(II)I"⟩, 10), (⟨"HornBridge$River", "countReadings", "(JI)I"⟩, 10), (⟨"HornBridge$River", "countBeats", "(JII)I"⟩, 10), (⟨"HornBridge", "tellFraction", "(II)V"⟩, 18), (⟨"HornBridge$River", "couplesAlike", "(I)I"⟩, 10), (⟨"HornBridge$CodeSearch", "find", "(III)Z"⟩, 7), (⟨"HornBridge$CodeSearch", "extend", "(IIII)Z"⟩, 7), (⟨"HornBridge$CodeSearch", "fitsLast", "(I)Z"⟩, 7)]
theorem lw_r4 : ∀ q ∈ lw_privs_4, lw_okq q := List.forall_mem_cons.mpr ⟨lw_p48, List.forall_mem_cons.mpr ⟨lw_p49, List.forall_mem_cons.mpr ⟨lw_p50, List.forall_mem_cons.mpr ⟨lw_p51, List.forall_mem_cons.mpr ⟨lw_p52, List.forall_mem_cons.mpr ⟨lw_p53, List.forall_mem_cons.mpr ⟨lw_p54, List.forall_mem_cons.mpr ⟨lw_p55, List.forall_mem_cons.mpr ⟨lw_p56, List.forall_mem_cons.mpr ⟨lw_p57, List.forall_mem_cons.mpr ⟨lw_p58, List.forall_mem_cons.mpr ⟨lw_p59, List.forall_mem_cons.mpr ⟨lw_p60, List.forall_mem_cons.mpr ⟨lw_p61, List.forall_mem_cons.mpr ⟨lw_p62, List.forall_mem_cons.mpr ⟨lw_p63, fun _ h => absurd h List.not_mem_nil⟩⟩⟩⟩⟩⟩⟩⟩⟩⟩⟩⟩⟩⟩⟩⟩
theorem lw_p64 : lw_okq (⟨"HornBridge$CodeSearch", "heardInRow", "(I)J"⟩, 7) := ⟨⟨by decide +kernel, by decide +kernel⟩, List.mem_of_getElem? (i := 147) (by decide +kernel), List.mem_of_getElem? (i := 967) (by decide +kernel), List.mem_of_getElem? (i := 968) (by decide +kernel)⟩
theorem lw_p65 : lw_okq (⟨"HornBridge$CodeSearch", "blastsTold", "()I"⟩, 7) := ⟨⟨by decide +kernel, by decide +kernel⟩, List.mem_of_getElem? (i := 147) (by decide +kernel), List.mem_of_getElem? (i := 972) (by decide +kernel), List.mem_of_getElem? (i := 973) (by decide +kernel)⟩
theorem lw_p66 : lw_okq (⟨"HornBridge$CodeSearch", "callTold", "(I)J"⟩, 7) := ⟨⟨by decide +kernel, by decide +kernel⟩, List.mem_of_getElem? (i := 147) (by decide +kernel), List.mem_of_getElem? (i := 980) (by decide +kernel), List.mem_of_getElem? (i := 981) (by decide +kernel)⟩
theorem lw_p67 : lw_okq (⟨"HornBridge", "leastAsTold", "()I"⟩, 18) := ⟨⟨by decide +kernel, by decide +kernel⟩, List.mem_of_getElem? (i := 24) (by decide +kernel), List.mem_of_getElem? (i := 1012) (by decide +kernel), List.mem_of_getElem? (i := 1013) (by decide +kernel)⟩
theorem lw_p68 : lw_okq (⟨"HornBridge$Crossing", "takeAll", "(LHornBridge$River;)V"⟩, 12) := ⟨⟨by decide +kernel, by decide +kernel⟩, List.mem_of_getElem? (i := 180) (by decide +kernel), List.mem_of_getElem? (i := 1016) (by decide +kernel), List.mem_of_getElem? (i := 1017) (by decide +kernel)⟩
theorem lw_p69 : lw_okq (⟨"HornBridge$Crossing", "leastWaits", "()I"⟩, 12) := ⟨⟨by decide +kernel, by decide +kernel⟩, List.mem_of_getElem? (i := 180) (by decide +kernel), List.mem_of_getElem? (i := 1022) (by decide +kernel), List.mem_of_getElem? (i := 1023) (by decide +kernel)⟩
theorem lw_p70 : lw_okq (⟨"HornBridge$Crossing", "search", "(IZIII)V"⟩, 12) := ⟨⟨by decide +kernel, by decide +kernel⟩, List.mem_of_getElem? (i := 180) (by decide +kernel), List.mem_of_getElem? (i := 1026) (by decide +kernel), List.mem_of_getElem? (i := 1027) (by decide +kernel)⟩
theorem lw_p71 : lw_okq (⟨"HornBridge$Crossing", "turnEnd", "(I)I"⟩, 12) := ⟨⟨by decide +kernel, by decide +kernel⟩, List.mem_of_getElem? (i := 180) (by decide +kernel), List.mem_of_getElem? (i := 1030) (by decide +kernel), List.mem_of_getElem? (i := 1031) (by decide +kernel)⟩
theorem lw_p72 : lw_okq (⟨"HornBridge$River", "turnLength", "(II)I"⟩, 10) := ⟨⟨by decide +kernel, by decide +kernel⟩, List.mem_of_getElem? (i := 34) (by decide +kernel), List.mem_of_getElem? (i := 1034) (by decide +kernel), List.mem_of_getElem? (i := 1035) (by decide +kernel)⟩
theorem lw_p73 : lw_okq (⟨"HornBridge", "answerWaits", "(I)I"⟩, 18) := ⟨⟨by decide +kernel, by decide +kernel⟩, List.mem_of_getElem? (i := 24) (by decide +kernel), List.mem_of_getElem? (i := 1045) (by decide +kernel), List.mem_of_getElem? (i := 1046) (by decide +kernel)⟩
theorem lw_p74 : lw_okq (⟨"HornBridge$Crossing", "layPlan", "()Z"⟩, 12) := ⟨⟨by decide +kernel, by decide +kernel⟩, List.mem_of_getElem? (i := 180) (by decide +kernel), List.mem_of_getElem? (i := 1054) (by decide +kernel), List.mem_of_getElem? (i := 1055) (by decide +kernel)⟩
theorem lw_p75 : lw_okq (⟨"HornBridge$Crossing", "shipMayBegin", "(IIII)Z"⟩, 12) := ⟨⟨by decide +kernel, by decide +kernel⟩, List.mem_of_getElem? (i := 180) (by decide +kernel), List.mem_of_getElem? (i := 1059) (by decide +kernel), List.mem_of_getElem? (i := 1060) (by decide +kernel)⟩
theorem lw_p76 : lw_okq (⟨"HornBridge$Crossing", "canEndWithin", "(IZIII)Z"⟩, 12) := ⟨⟨by decide +kernel, by decide +kernel⟩, List.mem_of_getElem? (i := 180) (by decide +kernel), List.mem_of_getElem? (i := 1063) (by decide +kernel), List.mem_of_getElem? (i := 1064) (by decide +kernel)⟩
theorem lw_p77 : lw_okq (⟨"HornBridge$Crossing", "addAct", "(III)V"⟩, 12) := ⟨⟨by decide +kernel, by decide +kernel⟩, List.mem_of_getElem? (i := 180) (by decide +kernel), List.mem_of_getElem? (i := 1067) (by decide +kernel), List.mem_of_getElem? (i := 1068) (by decide +kernel)⟩
theorem lw_p78 : lw_okq (⟨"HornBridge$Crossing", "cartMayBegin", "(IIII)Z"⟩, 12) := ⟨⟨by decide +kernel, by decide +kernel⟩, List.mem_of_getElem? (i := 180) (by decide +kernel), List.mem_of_getElem? (i := 1071) (by decide +kernel), List.mem_of_getElem? (i := 1072) (by decide +kernel)⟩
theorem lw_p79 : lw_okq (⟨"HornBridge$Crossing", "tellPlan", "()V"⟩, 12) := ⟨⟨by decide +kernel, by decide +kernel⟩, List.mem_of_getElem? (i := 180) (by decide +kernel), List.mem_of_getElem? (i := 1075) (by decide +kernel), List.mem_of_getElem? (i := 1076) (by decide +kernel)⟩
def lw_privs_5 : List (MethodName × Nat) := [(⟨"HornBridge$CodeSearch", "heardInRow", "(I)J"⟩, 7), (⟨"HornBridge$CodeSearch", "blastsTold", "()I"⟩, 7), (⟨"HornBridge$CodeSearch", "callTold", "(I)J"⟩, 7), (⟨"HornBridge", "leastAsTold", "()I"⟩, 18), (⟨"HornBridge$Crossing", "takeAll", "(LHornBridge$River;)V"⟩, 12), (⟨"HornBridge$Crossing", "leastWaits", "()I"⟩, 12), (⟨"HornBridge$Crossing", "search", "(IZIII)V"⟩, 12), (⟨"HornBridge$Crossing", "turnEnd", "(I)I"⟩, 12), (⟨"HornBridge$River", "turnLength", "(II)I"⟩, 10), (⟨"HornBridge", "answerWaits", "(I)I"⟩, 18), (⟨"HornBridge$Crossing", "layPlan", "()Z"⟩, 12), (⟨"HornBridge$Crossing", "shipMayBegin", "(IIII)Z"⟩, 12), (⟨"HornBridge$Crossing", "canEndWithin", "(IZIII)Z"⟩, 12), (⟨"HornBridge$Crossing", "addAct", "(III)V"⟩, 12), (⟨"HornBridge$Crossing", "cartMayBegin", "(IIII)Z"⟩, 12), (⟨"HornBridge$Crossing", "tellPlan", "()V"⟩, 12)]
theorem lw_r5 : ∀ q ∈ lw_privs_5, lw_okq q := List.forall_mem_cons.mpr ⟨lw_p64, List.forall_mem_cons.mpr ⟨lw_p65, List.forall_mem_cons.mpr ⟨lw_p66, List.forall_mem_cons.mpr ⟨lw_p67, List.forall_mem_cons.mpr ⟨lw_p68, List.forall_mem_cons.mpr ⟨lw_p69, List.forall_mem_cons.mpr ⟨lw_p70, List.forall_mem_cons.mpr ⟨lw_p71, List.forall_mem_cons.mpr ⟨lw_p72, List.forall_mem_cons.mpr ⟨lw_p73, List.forall_mem_cons.mpr ⟨lw_p74, List.forall_mem_cons.mpr ⟨lw_p75, List.forall_mem_cons.mpr ⟨lw_p76, List.forall_mem_cons.mpr ⟨lw_p77, List.forall_mem_cons.mpr ⟨lw_p78, List.forall_mem_cons.mpr ⟨lw_p79, fun _ h => absurd h List.not_mem_nil⟩⟩⟩⟩⟩⟩⟩⟩⟩⟩⟩⟩⟩⟩⟩⟩
theorem lw_p80 : lw_okq (⟨"HornBridge$Crossing", "allCanPass", "()Z"⟩, 12) := ⟨⟨by decide +kernel, by decide +kernel⟩, List.mem_of_getElem? (i := 180) (by decide +kernel), List.mem_of_getElem? (i := 1102) (by decide +kernel), List.mem_of_getElem? (i := 1103) (by decide +kernel)⟩
theorem lw_p81 : lw_okq (⟨"HornBridge$Crossing", "canPassWithin", "(I)Z"⟩, 12) := ⟨⟨by decide +kernel, by decide +kernel⟩, List.mem_of_getElem? (i := 180) (by decide +kernel), List.mem_of_getElem? (i := 1115) (by decide +kernel), List.mem_of_getElem? (i := 1116) (by decide +kernel)⟩
theorem lw_p82 : lw_okq (⟨"HornBridge$Crossing", "dearestByPlan", "(LHornBridge$River;)I"⟩, 12) := ⟨⟨by decide +kernel, by decide +kernel⟩, List.mem_of_getElem? (i := 180) (by decide +kernel), List.mem_of_getElem? (i := 1127) (by decide +kernel), List.mem_of_getElem? (i := 1128) (by decide +kernel)⟩
theorem lw_p83 : lw_okq (⟨"HornBridge$Crossing", "openedByPlan", "()I"⟩, 12) := ⟨⟨by decide +kernel, by decide +kernel⟩, List.mem_of_getElem? (i := 180) (by decide +kernel), List.mem_of_getElem? (i := 1138) (by decide +kernel), List.mem_of_getElem? (i := 1139) (by decide +kernel)⟩
theorem lw_p84 : lw_okq (⟨"HornBridge$Crossing", "busiestByPlan", "()I"⟩, 12) := ⟨⟨by decide +kernel, by decide +kernel⟩, List.mem_of_getElem? (i := 180) (by decide +kernel), List.mem_of_getElem? (i := 1146) (by decide +kernel), List.mem_of_getElem? (i := 1147) (by decide +kernel)⟩
theorem lw_p85 : lw_okq (⟨"HornBridge$Keeper", "spendDay", "(LHornBridge$River;LHornBridge$Rules;I)V"⟩, 17) := ⟨⟨by decide +kernel, by decide +kernel⟩, List.mem_of_getElem? (i := 231) (by decide +kernel), List.mem_of_getElem? (i := 1157) (by decide +kernel), List.mem_of_getElem? (i := 1158) (by decide +kernel)⟩
theorem lw_p86 : lw_okq (⟨"HornBridge$Keeper", "comeLater", "(LHornBridge$River;I)V"⟩, 17) := ⟨⟨by decide +kernel, by decide +kernel⟩, List.mem_of_getElem? (i := 231) (by decide +kernel), List.mem_of_getElem? (i := 1161) (by decide +kernel), List.mem_of_getElem? (i := 1162) (by decide +kernel)⟩
theorem lw_p87 : lw_okq (⟨"HornBridge$Keeper", "delay", "(I)I"⟩, 17) := ⟨⟨by decide +kernel, by decide +kernel⟩, List.mem_of_getElem? (i := 231) (by decide +kernel), List.mem_of_getElem? (i := 1166) (by decide +kernel), List.mem_of_getElem? (i := 1167) (by decide +kernel)⟩
theorem lw_p88 : lw_okq (⟨"HornBridge$Keeper", "endWhatIsOver", "()V"⟩, 17) := ⟨⟨by decide +kernel, by decide +kernel⟩, List.mem_of_getElem? (i := 231) (by decide +kernel), List.mem_of_getElem? (i := 1172) (by decide +kernel), List.mem_of_getElem? (i := 1173) (by decide +kernel)⟩
theorem lw_p89 : lw_okq (⟨"HornBridge$Keeper", "left", "()I"⟩, 17) := ⟨⟨by decide +kernel, by decide +kernel⟩, List.mem_of_getElem? (i := 231) (by decide +kernel), List.mem_of_getElem? (i := 1176) (by decide +kernel), List.mem_of_getElem? (i := 1177) (by decide +kernel)⟩
theorem lw_p90 : lw_okq (⟨"HornBridge$Keeper", "strikeSails", "()V"⟩, 17) := ⟨⟨by decide +kernel, by decide +kernel⟩, List.mem_of_getElem? (i := 231) (by decide +kernel), List.mem_of_getElem? (i := 1180) (by decide +kernel), List.mem_of_getElem? (i := 1181) (by decide +kernel)⟩
theorem lw_p91 : lw_okq (⟨"HornBridge$Keeper", "firstShipLeft", "()I"⟩, 17) := ⟨⟨by decide +kernel, by decide +kernel⟩, List.mem_of_getElem? (i := 231) (by decide +kernel), List.mem_of_getElem? (i := 1184) (by decide +kernel), List.mem_of_getElem? (i := 1185) (by decide +kernel)⟩
theorem lw_p92 : lw_okq (⟨"HornBridge$Keeper", "strikeIfDue", "(I)V"⟩, 17) := ⟨⟨by decide +kernel, by decide +kernel⟩, List.mem_of_getElem? (i := 231) (by decide +kernel), List.mem_of_getElem? (i := 1188) (by decide +kernel), List.mem_of_getElem? (i := 1189) (by decide +kernel)⟩
theorem lw_p93 : lw_okq (⟨"HornBridge$Keeper", "obey", "(LHornBridge$River;LHornBridge$Rules;)V"⟩, 17) := ⟨⟨by decide +kernel, by decide +kernel⟩, List.mem_of_getElem? (i := 231) (by decide +kernel), List.mem_of_getElem? (i := 1192) (by decide +kernel), List.mem_of_getElem? (i := 1193) (by decide +kernel)⟩
theorem lw_p94 : lw_okq (⟨"HornBridge$Keeper", "gatherFacts", "()V"⟩, 17) := ⟨⟨by decide +kernel, by decide +kernel⟩, List.mem_of_getElem? (i := 231) (by decide +kernel), List.mem_of_getElem? (i := 1196) (by decide +kernel), List.mem_of_getElem? (i := 1197) (by decide +kernel)⟩
theorem lw_p95 : lw_okq (⟨"HornBridge$Rules", "actBy", "([I)I"⟩, 7) := ⟨⟨by decide +kernel, by decide +kernel⟩, List.mem_of_getElem? (i := 677) (by decide +kernel), List.mem_of_getElem? (i := 1200) (by decide +kernel), List.mem_of_getElem? (i := 1201) (by decide +kernel)⟩
def lw_privs_6 : List (MethodName × Nat) := [(⟨"HornBridge$Crossing", "allCanPass", "()Z"⟩, 12), (⟨"HornBridge$Crossing", "canPassWithin", "(I)Z"⟩, 12), (⟨"HornBridge$Crossing", "dearestByPlan", "(LHornBridge$River;)I"⟩, 12), (⟨"HornBridge$Crossing", "openedByPlan", "()I"⟩, 12), (⟨"HornBridge$Crossing", "busiestByPlan", "()I"⟩, 12), (⟨"HornBridge$Keeper", "spendDay", "(LHornBridge$River;LHornBridge$Rules;I)V"⟩, 17), (⟨"HornBridge$Keeper", "comeLater", "(LHornBridge$River;I)V"⟩, 17), (⟨"HornBridge$Keeper", "delay", "(I)I"⟩, 17), (⟨"HornBridge$Keeper", "endWhatIsOver", "()V"⟩, 17), (⟨"HornBridge$Keeper", "left", "()I"⟩, 17), (⟨"HornBridge$Keeper", "strikeSails", "()V"⟩, 17), (⟨"HornBridge$Keeper", "firstShipLeft", "()I"⟩, 17), (⟨"HornBridge$Keeper", "strikeIfDue", "(I)V"⟩, 17), (⟨"HornBridge$Keeper", "obey", "(LHornBridge$River;LHornBridge$Rules;)V"⟩, 17), (⟨"HornBridge$Keeper", "gatherFacts", "()V"⟩, 17), (⟨"HornBridge$Rules", "actBy", "([I)I"⟩, 7)]
theorem lw_r6 : ∀ q ∈ lw_privs_6, lw_okq q := List.forall_mem_cons.mpr ⟨lw_p80, List.forall_mem_cons.mpr ⟨lw_p81, List.forall_mem_cons.mpr ⟨lw_p82, List.forall_mem_cons.mpr ⟨lw_p83, List.forall_mem_cons.mpr ⟨lw_p84, List.forall_mem_cons.mpr ⟨lw_p85, List.forall_mem_cons.mpr ⟨lw_p86, List.forall_mem_cons.mpr ⟨lw_p87, List.forall_mem_cons.mpr ⟨lw_p88, List.forall_mem_cons.mpr ⟨lw_p89, List.forall_mem_cons.mpr ⟨lw_p90, List.forall_mem_cons.mpr ⟨lw_p91, List.forall_mem_cons.mpr ⟨lw_p92, List.forall_mem_cons.mpr ⟨lw_p93, List.forall_mem_cons.mpr ⟨lw_p94, List.forall_mem_cons.mpr ⟨lw_p95, fun _ h => absurd h List.not_mem_nil⟩⟩⟩⟩⟩⟩⟩⟩⟩⟩⟩⟩⟩⟩⟩⟩
theorem lw_p96 : lw_okq (⟨"HornBridge$Rules", "holds", "(II[I)Z"⟩, 7) := ⟨⟨by decide +kernel, by decide +kernel⟩, List.mem_of_getElem? (i := 677) (by decide +kernel), List.mem_of_getElem? (i := 1204) (by decide +kernel), List.mem_of_getElem? (i := 1205) (by decide +kernel)⟩
theorem lw_p97 : lw_okq (⟨"HornBridge$Rules", "compares", "(I[I)Z"⟩, 7) := ⟨⟨by decide +kernel, by decide +kernel⟩, List.mem_of_getElem? (i := 677) (by decide +kernel), List.mem_of_getElem? (i := 1209) (by decide +kernel), List.mem_of_getElem? (i := 1210) (by decide +kernel)⟩
theorem lw_p98 : lw_okq (⟨"HornBridge$Keeper", "beginNext", "()V"⟩, 17) := ⟨⟨by decide +kernel, by decide +kernel⟩, List.mem_of_getElem? (i := 231) (by decide +kernel), List.mem_of_getElem? (i := 1214) (by decide +kernel), List.mem_of_getElem? (i := 1215) (by decide +kernel)⟩
theorem lw_p99 : lw_okq (⟨"HornBridge$Keeper", "begin", "(ILHornBridge$Lane;I)V"⟩, 17) := ⟨⟨by decide +kernel, by decide +kernel⟩, List.mem_of_getElem? (i := 231) (by decide +kernel), List.mem_of_getElem? (i := 1218) (by decide +kernel), List.mem_of_getElem? (i := 1219) (by decide +kernel)⟩
theorem lw_p100 : lw_okq (⟨"HornBridge$Keeper", "tellDay", "()V"⟩, 17) := ⟨⟨by decide +kernel, by decide +kernel⟩, List.mem_of_getElem? (i := 231) (by decide +kernel), List.mem_of_getElem? (i := 1222) (by decide +kernel), List.mem_of_getElem? (i := 1223) (by decide +kernel)⟩
theorem lw_p101 : lw_okq (⟨"HornBridge", "wrongSeeds", "(II)I"⟩, 18) := ⟨⟨by decide +kernel, by decide +kernel⟩, List.mem_of_getElem? (i := 24) (by decide +kernel), List.mem_of_getElem? (i := 1234) (by decide +kernel), List.mem_of_getElem? (i := 1235) (by decide +kernel)⟩
theorem lw_p102 : lw_okq (⟨"HornBridgeModel", "is", "(I)Z"⟩, 76) := ⟨⟨by decide +kernel, by decide +kernel⟩, List.mem_of_getElem? (i := 1251) (by decide +kernel), List.mem_of_getElem? (i := 1505) (by decide +kernel), List.mem_of_getElem? (i := 1506) (by decide +kernel)⟩
theorem lw_p103 : lw_okq (⟨"HornBridgeModel", "wrongPlace", "(II)I"⟩, 76) := ⟨⟨by decide +kernel, by decide +kernel⟩, List.mem_of_getElem? (i := 1251) (by decide +kernel), List.mem_of_getElem? (i := 1513) (by decide +kernel), List.mem_of_getElem? (i := 1514) (by decide +kernel)⟩
theorem lw_p104 : lw_okq (⟨"HornBridgeModel", "four", "(I)V"⟩, 76) := ⟨⟨by decide +kernel, by decide +kernel⟩, List.mem_of_getElem? (i := 1251) (by decide +kernel), List.mem_of_getElem? (i := 1533) (by decide +kernel), List.mem_of_getElem? (i := 1534) (by decide +kernel)⟩
theorem lw_p105 : lw_okq (⟨"HornBridgeModel", "begins", "(II)Z"⟩, 76) := ⟨⟨by decide +kernel, by decide +kernel⟩, List.mem_of_getElem? (i := 1251) (by decide +kernel), List.mem_of_getElem? (i := 1545) (by decide +kernel), List.mem_of_getElem? (i := 1546) (by decide +kernel)⟩
theorem lw_p106 : lw_okq (⟨"HornBridgeModel", "ahead", "()V"⟩, 76) := ⟨⟨by decide +kernel, by decide +kernel⟩, List.mem_of_getElem? (i := 1251) (by decide +kernel), List.mem_of_getElem? (i := 1549) (by decide +kernel), List.mem_of_getElem? (i := 1550) (by decide +kernel)⟩
theorem lw_p107 : lw_okq (⟨"HornBridgeModel", "byteAt", "(I)I"⟩, 76) := ⟨⟨by decide +kernel, by decide +kernel⟩, List.mem_of_getElem? (i := 1251) (by decide +kernel), List.mem_of_getElem? (i := 1553) (by decide +kernel), List.mem_of_getElem? (i := 1554) (by decide +kernel)⟩
theorem lw_p108 : lw_okq (⟨"HornBridgeModel", "refuse", "(I)I"⟩, 76) := ⟨⟨by decide +kernel, by decide +kernel⟩, List.mem_of_getElem? (i := 1251) (by decide +kernel), List.mem_of_getElem? (i := 1565) (by decide +kernel), List.mem_of_getElem? (i := 1566) (by decide +kernel)⟩
theorem lw_p109 : lw_okq (⟨"HornBridgeModel", "riverPart", "()Z"⟩, 76) := ⟨⟨by decide +kernel, by decide +kernel⟩, List.mem_of_getElem? (i := 1251) (by decide +kernel), List.mem_of_getElem? (i := 1569) (by decide +kernel), List.mem_of_getElem? (i := 1570) (by decide +kernel)⟩
theorem lw_p110 : lw_okq (⟨"HornBridgeModel", "inWords", "(Ljava/lang/String;)I"⟩, 76) := ⟨⟨by decide +kernel, by decide +kernel⟩, List.mem_of_getElem? (i := 1251) (by decide +kernel), List.mem_of_getElem? (i := 1574) (by decide +kernel), List.mem_of_getElem? (i := 1575) (by decide +kernel)⟩
theorem lw_p111 : lw_okq (⟨"HornBridgeModel", "aPort", "()Z"⟩, 76) := ⟨⟨by decide +kernel, by decide +kernel⟩, List.mem_of_getElem? (i := 1251) (by decide +kernel), List.mem_of_getElem? (i := 1626) (by decide +kernel), List.mem_of_getElem? (i := 1627) (by decide +kernel)⟩
def lw_privs_7 : List (MethodName × Nat) := [(⟨"HornBridge$Rules", "holds", "(II[I)Z"⟩, 7), (⟨"HornBridge$Rules", "compares", "(I[I)Z"⟩, 7), (⟨"HornBridge$Keeper", "beginNext", "()V"⟩, 17), (⟨"HornBridge$Keeper", "begin", "(ILHornBridge$Lane;I)V"⟩, 17), (⟨"HornBridge$Keeper", "tellDay", "()V"⟩, 17), (⟨"HornBridge", "wrongSeeds", "(II)I"⟩, 18), (⟨"HornBridgeModel", "is", "(I)Z"⟩, 76), (⟨"HornBridgeModel", "wrongPlace", "(II)I"⟩, 76), (⟨"HornBridgeModel", "four", "(I)V"⟩, 76), (⟨"HornBridgeModel", "begins", "(II)Z"⟩, 76), (⟨"HornBridgeModel", "ahead", "()V"⟩, 76), (⟨"HornBridgeModel", "byteAt", "(I)I"⟩, 76), (⟨"HornBridgeModel", "refuse", "(I)I"⟩, 76), (⟨"HornBridgeModel", "riverPart", "()Z"⟩, 76), (⟨"HornBridgeModel", "inWords", "(Ljava/lang/String;)I"⟩, 76), (⟨"HornBridgeModel", "aPort", "()Z"⟩, 76)]
theorem lw_r7 : ∀ q ∈ lw_privs_7, lw_okq q := List.forall_mem_cons.mpr ⟨lw_p96, List.forall_mem_cons.mpr ⟨lw_p97, List.forall_mem_cons.mpr ⟨lw_p98, List.forall_mem_cons.mpr ⟨lw_p99, List.forall_mem_cons.mpr ⟨lw_p100, List.forall_mem_cons.mpr ⟨lw_p101, List.forall_mem_cons.mpr ⟨lw_p102, List.forall_mem_cons.mpr ⟨lw_p103, List.forall_mem_cons.mpr ⟨lw_p104, List.forall_mem_cons.mpr ⟨lw_p105, List.forall_mem_cons.mpr ⟨lw_p106, List.forall_mem_cons.mpr ⟨lw_p107, List.forall_mem_cons.mpr ⟨lw_p108, List.forall_mem_cons.mpr ⟨lw_p109, List.forall_mem_cons.mpr ⟨lw_p110, List.forall_mem_cons.mpr ⟨lw_p111, fun _ h => absurd h List.not_mem_nil⟩⟩⟩⟩⟩⟩⟩⟩⟩⟩⟩⟩⟩⟩⟩⟩
theorem lw_p112 : lw_okq (⟨"HornBridgeModel", "fails", "(I)Z"⟩, 76) := ⟨⟨by decide +kernel, by decide +kernel⟩, List.mem_of_getElem? (i := 1251) (by decide +kernel), List.mem_of_getElem? (i := 1630) (by decide +kernel), List.mem_of_getElem? (i := 1631) (by decide +kernel)⟩
theorem lw_p113 : lw_okq (⟨"HornBridgeModel", "aNewName", "(I)Z"⟩, 76) := ⟨⟨by decide +kernel, by decide +kernel⟩, List.mem_of_getElem? (i := 1251) (by decide +kernel), List.mem_of_getElem? (i := 1634) (by decide +kernel), List.mem_of_getElem? (i := 1635) (by decide +kernel)⟩
theorem lw_p114 : lw_okq (⟨"HornBridgeModel", "isName", "(Ljava/lang/String;)Z"⟩, 76) := ⟨⟨by decide +kernel, by decide +kernel⟩, List.mem_of_getElem? (i := 1251) (by decide +kernel), List.mem_of_getElem? (i := 1638) (by decide +kernel), List.mem_of_getElem? (i := 1639) (by decide +kernel)⟩
theorem lw_p115 : lw_okq (⟨"HornBridgeModel", "findHere", "(II)I"⟩, 76) := ⟨⟨by decide +kernel, by decide +kernel⟩, List.mem_of_getElem? (i := 1251) (by decide +kernel), List.mem_of_getElem? (i := 1642) (by decide +kernel), List.mem_of_getElem? (i := 1643) (by decide +kernel)⟩
theorem lw_p116 : lw_okq (⟨"HornBridgeModel", "nameHere", "()J"⟩, 76) := ⟨⟨by decide +kernel, by decide +kernel⟩, List.mem_of_getElem? (i := 1251) (by decide +kernel), List.mem_of_getElem? (i := 1646) (by decide +kernel), List.mem_of_getElem? (i := 1647) (by decide +kernel)⟩
theorem lw_p117 : lw_okq (⟨"HornBridgeModel", "wantWord", "(Ljava/lang/String;I)Z"⟩, 76) := ⟨⟨by decide +kernel, by decide +kernel⟩, List.mem_of_getElem? (i := 1251) (by decide +kernel), List.mem_of_getElem? (i := 1650) (by decide +kernel), List.mem_of_getElem? (i := 1651) (by decide +kernel)⟩
theorem lw_p118 : lw_okq (⟨"HornBridgeModel", "areBlasts", "()Z"⟩, 76) := ⟨⟨by decide +kernel, by decide +kernel⟩, List.mem_of_getElem? (i := 1251) (by decide +kernel), List.mem_of_getElem? (i := 1654) (by decide +kernel), List.mem_of_getElem? (i := 1655) (by decide +kernel)⟩
theorem lw_p119 : lw_okq (⟨"HornBridgeModel", "aShip", "()Z"⟩, 76) := ⟨⟨by decide +kernel, by decide +kernel⟩, List.mem_of_getElem? (i := 1251) (by decide +kernel), List.mem_of_getElem? (i := 1658) (by decide +kernel), List.mem_of_getElem? (i := 1659) (by decide +kernel)⟩
theorem lw_p120 : lw_okq (⟨"HornBridgeModel", "passes", "(I)Z"⟩, 76) := ⟨⟨by decide +kernel, by decide +kernel⟩, List.mem_of_getElem? (i := 1251) (by decide +kernel), List.mem_of_getElem? (i := 1662) (by decide +kernel), List.mem_of_getElem? (i := 1663) (by decide +kernel)⟩
theorem lw_p121 : lw_okq (⟨"HornBridgeModel", "number", "(III)Z"⟩, 76) := ⟨⟨by decide +kernel, by decide +kernel⟩, List.mem_of_getElem? (i := 1251) (by decide +kernel), List.mem_of_getElem? (i := 1666) (by decide +kernel), List.mem_of_getElem? (i := 1667) (by decide +kernel)⟩
theorem lw_p122 : lw_okq (⟨"HornBridgeModel", "aCart", "()Z"⟩, 76) := ⟨⟨by decide +kernel, by decide +kernel⟩, List.mem_of_getElem? (i := 1251) (by decide +kernel), List.mem_of_getElem? (i := 1670) (by decide +kernel), List.mem_of_getElem? (i := 1671) (by decide +kernel)⟩
theorem lw_p123 : lw_okq (⟨"HornBridgeModel", "once", "(I)Z"⟩, 76) := ⟨⟨by decide +kernel, by decide +kernel⟩, List.mem_of_getElem? (i := 1251) (by decide +kernel), List.mem_of_getElem? (i := 1674) (by decide +kernel), List.mem_of_getElem? (i := 1675) (by decide +kernel)⟩
theorem lw_p124 : lw_okq (⟨"HornBridgeModel", "wantSign", "(I)Z"⟩, 76) := ⟨⟨by decide +kernel, by decide +kernel⟩, List.mem_of_getElem? (i := 1251) (by decide +kernel), List.mem_of_getElem? (i := 1678) (by decide +kernel), List.mem_of_getElem? (i := 1679) (by decide +kernel)⟩
theorem lw_p125 : lw_okq (⟨"HornBridgeModel", "isSign", "(I)Z"⟩, 76) := ⟨⟨by decide +kernel, by decide +kernel⟩, List.mem_of_getElem? (i := 1251) (by decide +kernel), List.mem_of_getElem? (i := 1682) (by decide +kernel), List.mem_of_getElem? (i := 1683) (by decide +kernel)⟩
theorem lw_p126 : lw_okq (⟨"HornBridgeModel", "taken", "(I)I"⟩, 76) := ⟨⟨by decide +kernel, by decide +kernel⟩, List.mem_of_getElem? (i := 1251) (by decide +kernel), List.mem_of_getElem? (i := 1686) (by decide +kernel), List.mem_of_getElem? (i := 1687) (by decide +kernel)⟩
theorem lw_p127 : lw_okq (⟨"HornBridgeModel", "gives", "(I)I"⟩, 76) := ⟨⟨by decide +kernel, by decide +kernel⟩, List.mem_of_getElem? (i := 1251) (by decide +kernel), List.mem_of_getElem? (i := 1690) (by decide +kernel), List.mem_of_getElem? (i := 1691) (by decide +kernel)⟩
def lw_privs_8 : List (MethodName × Nat) := [(⟨"HornBridgeModel", "fails", "(I)Z"⟩, 76), (⟨"HornBridgeModel", "aNewName", "(I)Z"⟩, 76), (⟨"HornBridgeModel", "isName", "(Ljava/lang/String;)Z"⟩, 76), (⟨"HornBridgeModel", "findHere", "(II)I"⟩, 76), (⟨"HornBridgeModel", "nameHere", "()J"⟩, 76), (⟨"HornBridgeModel", "wantWord", "(Ljava/lang/String;I)Z"⟩, 76), (⟨"HornBridgeModel", "areBlasts", "()Z"⟩, 76), (⟨"HornBridgeModel", "aShip", "()Z"⟩, 76), (⟨"HornBridgeModel", "passes", "(I)Z"⟩, 76), (⟨"HornBridgeModel", "number", "(III)Z"⟩, 76), (⟨"HornBridgeModel", "aCart", "()Z"⟩, 76), (⟨"HornBridgeModel", "once", "(I)Z"⟩, 76), (⟨"HornBridgeModel", "wantSign", "(I)Z"⟩, 76), (⟨"HornBridgeModel", "isSign", "(I)Z"⟩, 76), (⟨"HornBridgeModel", "taken", "(I)I"⟩, 76), (⟨"HornBridgeModel", "gives", "(I)I"⟩, 76)]
theorem lw_r8 : ∀ q ∈ lw_privs_8, lw_okq q := List.forall_mem_cons.mpr ⟨lw_p112, List.forall_mem_cons.mpr ⟨lw_p113, List.forall_mem_cons.mpr ⟨lw_p114, List.forall_mem_cons.mpr ⟨lw_p115, List.forall_mem_cons.mpr ⟨lw_p116, List.forall_mem_cons.mpr ⟨lw_p117, List.forall_mem_cons.mpr ⟨lw_p118, List.forall_mem_cons.mpr ⟨lw_p119, List.forall_mem_cons.mpr ⟨lw_p120, List.forall_mem_cons.mpr ⟨lw_p121, List.forall_mem_cons.mpr ⟨lw_p122, List.forall_mem_cons.mpr ⟨lw_p123, List.forall_mem_cons.mpr ⟨lw_p124, List.forall_mem_cons.mpr ⟨lw_p125, List.forall_mem_cons.mpr ⟨lw_p126, List.forall_mem_cons.mpr ⟨lw_p127, fun _ h => absurd h List.not_mem_nil⟩⟩⟩⟩⟩⟩⟩⟩⟩⟩⟩⟩⟩⟩⟩⟩
theorem lw_p128 : lw_okq (⟨"HornBridgeModel", "aRule", "()Z"⟩, 76) := ⟨⟨by decide +kernel, by decide +kernel⟩, List.mem_of_getElem? (i := 1251) (by decide +kernel), List.mem_of_getElem? (i := 1698) (by decide +kernel), List.mem_of_getElem? (i := 1699) (by decide +kernel)⟩
theorem lw_p129 : lw_okq (⟨"HornBridgeModel", "conditions", "()Z"⟩, 76) := ⟨⟨by decide +kernel, by decide +kernel⟩, List.mem_of_getElem? (i := 1251) (by decide +kernel), List.mem_of_getElem? (i := 1702) (by decide +kernel), List.mem_of_getElem? (i := 1703) (by decide +kernel)⟩
theorem lw_p130 : lw_okq (⟨"HornBridgeModel", "aOne", "()Z"⟩, 76) := ⟨⟨by decide +kernel, by decide +kernel⟩, List.mem_of_getElem? (i := 1251) (by decide +kernel), List.mem_of_getElem? (i := 1706) (by decide +kernel), List.mem_of_getElem? (i := 1707) (by decide +kernel)⟩
theorem lw_p131 : lw_okq (⟨"HornBridgeModel", "does", "(I)V"⟩, 76) := ⟨⟨by decide +kernel, by decide +kernel⟩, List.mem_of_getElem? (i := 1251) (by decide +kernel), List.mem_of_getElem? (i := 1710) (by decide +kernel), List.mem_of_getElem? (i := 1711) (by decide +kernel)⟩
theorem lw_p132 : lw_okq (⟨"HornBridgeModel", "aCase", "(I)Z"⟩, 76) := ⟨⟨by decide +kernel, by decide +kernel⟩, List.mem_of_getElem? (i := 1251) (by decide +kernel), List.mem_of_getElem? (i := 1714) (by decide +kernel), List.mem_of_getElem? (i := 1715) (by decide +kernel)⟩
theorem lw_p133 : lw_okq (⟨"HornBridgeModel", "asksAlso", "(I)V"⟩, 76) := ⟨⟨by decide +kernel, by decide +kernel⟩, List.mem_of_getElem? (i := 1251) (by decide +kernel), List.mem_of_getElem? (i := 1718) (by decide +kernel), List.mem_of_getElem? (i := 1719) (by decide +kernel)⟩
theorem lw_p134 : lw_okq (⟨"HornBridgeModel", "turnsRound", "()V"⟩, 76) := ⟨⟨by decide +kernel, by decide +kernel⟩, List.mem_of_getElem? (i := 1251) (by decide +kernel), List.mem_of_getElem? (i := 1722) (by decide +kernel), List.mem_of_getElem? (i := 1723) (by decide +kernel)⟩
theorem lw_p135 : lw_okq (⟨"HornBridgeModel", "isDoing", "(I)Z"⟩, 76) := ⟨⟨by decide +kernel, by decide +kernel⟩, List.mem_of_getElem? (i := 1251) (by decide +kernel), List.mem_of_getElem? (i := 1726) (by decide +kernel), List.mem_of_getElem? (i := 1727) (by decide +kernel)⟩
theorem lw_p136 : lw_okq (⟨"HornBridgeModel", "joins", "()V"⟩, 76) := ⟨⟨by decide +kernel, by decide +kernel⟩, List.mem_of_getElem? (i := 1251) (by decide +kernel), List.mem_of_getElem? (i := 1730) (by decide +kernel), List.mem_of_getElem? (i := 1731) (by decide +kernel)⟩
theorem lw_p137 : lw_okq (⟨"HornBridgeModel", "isWithin", "()Z"⟩, 76) := ⟨⟨by decide +kernel, by decide +kernel⟩, List.mem_of_getElem? (i := 1251) (by decide +kernel), List.mem_of_getElem? (i := 1734) (by decide +kernel), List.mem_of_getElem? (i := 1735) (by decide +kernel)⟩
theorem lw_p138 : lw_okq (⟨"HornBridgeModel", "isShip", "(I)Z"⟩, 76) := ⟨⟨by decide +kernel, by decide +kernel⟩, List.mem_of_getElem? (i := 1251) (by decide +kernel), List.mem_of_getElem? (i := 1746) (by decide +kernel), List.mem_of_getElem? (i := 1747) (by decide +kernel)⟩
theorem lw_p139 : lw_okq (⟨"HornBridgeModel", "isCart", "(I)Z"⟩, 76) := ⟨⟨by decide +kernel, by decide +kernel⟩, List.mem_of_getElem? (i := 1251) (by decide +kernel), List.mem_of_getElem? (i := 1754) (by decide +kernel), List.mem_of_getElem? (i := 1755) (by decide +kernel)⟩
theorem lw_p140 : lw_okq (⟨"HornBridgeModel", "isPort", "(I)Z"⟩, 76) := ⟨⟨by decide +kernel, by decide +kernel⟩, List.mem_of_getElem? (i := 1251) (by decide +kernel), List.mem_of_getElem? (i := 1762) (by decide +kernel), List.mem_of_getElem? (i := 1763) (by decide +kernel)⟩
theorem lw_p141 : lw_okq (⟨"HornBridgeModel", "soundOf", "(I)J"⟩, 76) := ⟨⟨by decide +kernel, by decide +kernel⟩, List.mem_of_getElem? (i := 1251) (by decide +kernel), List.mem_of_getElem? (i := 1766) (by decide +kernel), List.mem_of_getElem? (i := 1767) (by decide +kernel)⟩
theorem lw_p142 : lw_okq (⟨"HornBridgeModel", "beatsOf", "(II)J"⟩, 76) := ⟨⟨by decide +kernel, by decide +kernel⟩, List.mem_of_getElem? (i := 1251) (by decide +kernel), List.mem_of_getElem? (i := 1770) (by decide +kernel), List.mem_of_getElem? (i := 1771) (by decide +kernel)⟩
theorem lw_p143 : lw_okq (⟨"HornBridgeModel", "givesLong", "(J)J"⟩, 76) := ⟨⟨by decide +kernel, by decide +kernel⟩, List.mem_of_getElem? (i := 1251) (by decide +kernel), List.mem_of_getElem? (i := 1774) (by decide +kernel), List.mem_of_getElem? (i := 1775) (by decide +kernel)⟩
def lw_privs_9 : List (MethodName × Nat) := [(⟨"HornBridgeModel", "aRule", "()Z"⟩, 76), (⟨"HornBridgeModel", "conditions", "()Z"⟩, 76), (⟨"HornBridgeModel", "aOne", "()Z"⟩, 76), (⟨"HornBridgeModel", "does", "(I)V"⟩, 76), (⟨"HornBridgeModel", "aCase", "(I)Z"⟩, 76), (⟨"HornBridgeModel", "asksAlso", "(I)V"⟩, 76), (⟨"HornBridgeModel", "turnsRound", "()V"⟩, 76), (⟨"HornBridgeModel", "isDoing", "(I)Z"⟩, 76), (⟨"HornBridgeModel", "joins", "()V"⟩, 76), (⟨"HornBridgeModel", "isWithin", "()Z"⟩, 76), (⟨"HornBridgeModel", "isShip", "(I)Z"⟩, 76), (⟨"HornBridgeModel", "isCart", "(I)Z"⟩, 76), (⟨"HornBridgeModel", "isPort", "(I)Z"⟩, 76), (⟨"HornBridgeModel", "soundOf", "(I)J"⟩, 76), (⟨"HornBridgeModel", "beatsOf", "(II)J"⟩, 76), (⟨"HornBridgeModel", "givesLong", "(J)J"⟩, 76)]
theorem lw_r9 : ∀ q ∈ lw_privs_9, lw_okq q := List.forall_mem_cons.mpr ⟨lw_p128, List.forall_mem_cons.mpr ⟨lw_p129, List.forall_mem_cons.mpr ⟨lw_p130, List.forall_mem_cons.mpr ⟨lw_p131, List.forall_mem_cons.mpr ⟨lw_p132, List.forall_mem_cons.mpr ⟨lw_p133, List.forall_mem_cons.mpr ⟨lw_p134, List.forall_mem_cons.mpr ⟨lw_p135, List.forall_mem_cons.mpr ⟨lw_p136, List.forall_mem_cons.mpr ⟨lw_p137, List.forall_mem_cons.mpr ⟨lw_p138, List.forall_mem_cons.mpr ⟨lw_p139, List.forall_mem_cons.mpr ⟨lw_p140, List.forall_mem_cons.mpr ⟨lw_p141, List.forall_mem_cons.mpr ⟨lw_p142, List.forall_mem_cons.mpr ⟨lw_p143, fun _ h => absurd h List.not_mem_nil⟩⟩⟩⟩⟩⟩⟩⟩⟩⟩⟩⟩⟩⟩⟩⟩
theorem lw_p144 : lw_okq (⟨"HornBridgeModel", "heardOf", "(I)J"⟩, 76) := ⟨⟨by decide +kernel, by decide +kernel⟩, List.mem_of_getElem? (i := 1251) (by decide +kernel), List.mem_of_getElem? (i := 1782) (by decide +kernel), List.mem_of_getElem? (i := 1783) (by decide +kernel)⟩
theorem lw_p145 : lw_okq (⟨"HornBridgeModel", "findsReadings", "(J)V"⟩, 76) := ⟨⟨by decide +kernel, by decide +kernel⟩, List.mem_of_getElem? (i := 1251) (by decide +kernel), List.mem_of_getElem? (i := 1812) (by decide +kernel), List.mem_of_getElem? (i := 1813) (by decide +kernel)⟩
theorem lw_p146 : lw_okq (⟨"HornBridgeModel", "reads", "(III)V"⟩, 76) := ⟨⟨by decide +kernel, by decide +kernel⟩, List.mem_of_getElem? (i := 1251) (by decide +kernel), List.mem_of_getElem? (i := 1816) (by decide +kernel), List.mem_of_getElem? (i := 1817) (by decide +kernel)⟩
theorem lw_p147 : lw_okq (⟨"HornBridgeModel", "orNone", "(I)I"⟩, 76) := ⟨⟨by decide +kernel, by decide +kernel⟩, List.mem_of_getElem? (i := 1251) (by decide +kernel), List.mem_of_getElem? (i := 1824) (by decide +kernel), List.mem_of_getElem? (i := 1825) (by decide +kernel)⟩
theorem lw_p148 : lw_okq (⟨"HornBridgeModel", "tellsBy", "(JJ)Z"⟩, 76) := ⟨⟨by decide +kernel, by decide +kernel⟩, List.mem_of_getElem? (i := 1251) (by decide +kernel), List.mem_of_getElem? (i := 1832) (by decide +kernel), List.mem_of_getElem? (i := 1833) (by decide +kernel)⟩
theorem lw_p149 : lw_okq (⟨"HornBridgeModel", "alikeBy", "(I)I"⟩, 76) := ⟨⟨by decide +kernel, by decide +kernel⟩, List.mem_of_getElem? (i := 1251) (by decide +kernel), List.mem_of_getElem? (i := 1840) (by decide +kernel), List.mem_of_getElem? (i := 1841) (by decide +kernel)⟩
theorem lw_p150 : lw_okq (⟨"HornBridgeModel", "laysCalls", "(II)V"⟩, 76) := ⟨⟨by decide +kernel, by decide +kernel⟩, List.mem_of_getElem? (i := 1251) (by decide +kernel), List.mem_of_getElem? (i := 1866) (by decide +kernel), List.mem_of_getElem? (i := 1867) (by decide +kernel)⟩
theorem lw_p151 : lw_okq (⟨"HornBridgeModel", "isCode", "(I)Z"⟩, 76) := ⟨⟨by decide +kernel, by decide +kernel⟩, List.mem_of_getElem? (i := 1251) (by decide +kernel), List.mem_of_getElem? (i := 1871) (by decide +kernel), List.mem_of_getElem? (i := 1872) (by decide +kernel)⟩
theorem lw_p152 : lw_okq (⟨"HornBridgeModel", "tellsMinutes", "()V"⟩, 76) := ⟨⟨by decide +kernel, by decide +kernel⟩, List.mem_of_getElem? (i := 1251) (by decide +kernel), List.mem_of_getElem? (i := 1883) (by decide +kernel), List.mem_of_getElem? (i := 1884) (by decide +kernel)⟩
theorem lw_p153 : lw_okq (⟨"HornBridgeModel", "orders", "(I)V"⟩, 76) := ⟨⟨by decide +kernel, by decide +kernel⟩, List.mem_of_getElem? (i := 1251) (by decide +kernel), List.mem_of_getElem? (i := 1887) (by decide +kernel), List.mem_of_getElem? (i := 1888) (by decide +kernel)⟩
theorem lw_p154 : lw_okq (⟨"HornBridgeModel", "leastBy", "(II)I"⟩, 76) := ⟨⟨by decide +kernel, by decide +kernel⟩, List.mem_of_getElem? (i := 1251) (by decide +kernel), List.mem_of_getElem? (i := 1899) (by decide +kernel), List.mem_of_getElem? (i := 1900) (by decide +kernel)⟩
theorem lw_p155 : lw_okq (⟨"HornBridgeModel", "reckons", "()I"⟩, 76) := ⟨⟨by decide +kernel, by decide +kernel⟩, List.mem_of_getElem? (i := 1251) (by decide +kernel), List.mem_of_getElem? (i := 1903) (by decide +kernel), List.mem_of_getElem? (i := 1904) (by decide +kernel)⟩
theorem lw_p156 : lw_okq (⟨"HornBridgeModel", "leftAt", "(IIII)I"⟩, 76) := ⟨⟨by decide +kernel, by decide +kernel⟩, List.mem_of_getElem? (i := 1251) (by decide +kernel), List.mem_of_getElem? (i := 1907) (by decide +kernel), List.mem_of_getElem? (i := 1908) (by decide +kernel)⟩
theorem lw_p157 : lw_okq (⟨"HornBridgeModel", "turnTime", "(II)I"⟩, 76) := ⟨⟨by decide +kernel, by decide +kernel⟩, List.mem_of_getElem? (i := 1251) (by decide +kernel), List.mem_of_getElem? (i := 1915) (by decide +kernel), List.mem_of_getElem? (i := 1916) (by decide +kernel)⟩
theorem lw_p158 : lw_okq (⟨"HornBridgeModel", "mayShip", "(III)Z"⟩, 76) := ⟨⟨by decide +kernel, by decide +kernel⟩, List.mem_of_getElem? (i := 1251) (by decide +kernel), List.mem_of_getElem? (i := 1919) (by decide +kernel), List.mem_of_getElem? (i := 1920) (by decide +kernel)⟩
theorem lw_p159 : lw_okq (⟨"HornBridgeModel", "ofShip", "(II)I"⟩, 76) := ⟨⟨by decide +kernel, by decide +kernel⟩, List.mem_of_getElem? (i := 1251) (by decide +kernel), List.mem_of_getElem? (i := 1923) (by decide +kernel), List.mem_of_getElem? (i := 1924) (by decide +kernel)⟩
def lw_privs_10 : List (MethodName × Nat) := [(⟨"HornBridgeModel", "heardOf", "(I)J"⟩, 76), (⟨"HornBridgeModel", "findsReadings", "(J)V"⟩, 76), (⟨"HornBridgeModel", "reads", "(III)V"⟩, 76), (⟨"HornBridgeModel", "orNone", "(I)I"⟩, 76), (⟨"HornBridgeModel", "tellsBy", "(JJ)Z"⟩, 76), (⟨"HornBridgeModel", "alikeBy", "(I)I"⟩, 76), (⟨"HornBridgeModel", "laysCalls", "(II)V"⟩, 76), (⟨"HornBridgeModel", "isCode", "(I)Z"⟩, 76), (⟨"HornBridgeModel", "tellsMinutes", "()V"⟩, 76), (⟨"HornBridgeModel", "orders", "(I)V"⟩, 76), (⟨"HornBridgeModel", "leastBy", "(II)I"⟩, 76), (⟨"HornBridgeModel", "reckons", "()I"⟩, 76), (⟨"HornBridgeModel", "leftAt", "(IIII)I"⟩, 76), (⟨"HornBridgeModel", "turnTime", "(II)I"⟩, 76), (⟨"HornBridgeModel", "mayShip", "(III)Z"⟩, 76), (⟨"HornBridgeModel", "ofShip", "(II)I"⟩, 76)]
theorem lw_r10 : ∀ q ∈ lw_privs_10, lw_okq q := List.forall_mem_cons.mpr ⟨lw_p144, List.forall_mem_cons.mpr ⟨lw_p145, List.forall_mem_cons.mpr ⟨lw_p146, List.forall_mem_cons.mpr ⟨lw_p147, List.forall_mem_cons.mpr ⟨lw_p148, List.forall_mem_cons.mpr ⟨lw_p149, List.forall_mem_cons.mpr ⟨lw_p150, List.forall_mem_cons.mpr ⟨lw_p151, List.forall_mem_cons.mpr ⟨lw_p152, List.forall_mem_cons.mpr ⟨lw_p153, List.forall_mem_cons.mpr ⟨lw_p154, List.forall_mem_cons.mpr ⟨lw_p155, List.forall_mem_cons.mpr ⟨lw_p156, List.forall_mem_cons.mpr ⟨lw_p157, List.forall_mem_cons.mpr ⟨lw_p158, List.forall_mem_cons.mpr ⟨lw_p159, fun _ h => absurd h List.not_mem_nil⟩⟩⟩⟩⟩⟩⟩⟩⟩⟩⟩⟩⟩⟩⟩⟩
theorem lw_p160 : lw_okq (⟨"HornBridgeModel", "byShip", "(III)I"⟩, 76) := ⟨⟨by decide +kernel, by decide +kernel⟩, List.mem_of_getElem? (i := 1251) (by decide +kernel), List.mem_of_getElem? (i := 1927) (by decide +kernel), List.mem_of_getElem? (i := 1928) (by decide +kernel)⟩
theorem lw_p161 : lw_okq (⟨"HornBridgeModel", "mayCart", "(III)Z"⟩, 76) := ⟨⟨by decide +kernel, by decide +kernel⟩, List.mem_of_getElem? (i := 1251) (by decide +kernel), List.mem_of_getElem? (i := 1931) (by decide +kernel), List.mem_of_getElem? (i := 1932) (by decide +kernel)⟩
theorem lw_p162 : lw_okq (⟨"HornBridgeModel", "byCart", "(III)I"⟩, 76) := ⟨⟨by decide +kernel, by decide +kernel⟩, List.mem_of_getElem? (i := 1251) (by decide +kernel), List.mem_of_getElem? (i := 1935) (by decide +kernel), List.mem_of_getElem? (i := 1936) (by decide +kernel)⟩
theorem lw_p163 : lw_okq (⟨"HornBridgeModel", "ofCart", "(II)I"⟩, 76) := ⟨⟨by decide +kernel, by decide +kernel⟩, List.mem_of_getElem? (i := 1251) (by decide +kernel), List.mem_of_getElem? (i := 1939) (by decide +kernel), List.mem_of_getElem? (i := 1940) (by decide +kernel)⟩
theorem lw_p164 : lw_okq (⟨"HornBridgeModel", "plans", "()Z"⟩, 76) := ⟨⟨by decide +kernel, by decide +kernel⟩, List.mem_of_getElem? (i := 1251) (by decide +kernel), List.mem_of_getElem? (i := 1947) (by decide +kernel), List.mem_of_getElem? (i := 1948) (by decide +kernel)⟩
theorem lw_p165 : lw_okq (⟨"HornBridgeModel", "acts", "(III)V"⟩, 76) := ⟨⟨by decide +kernel, by decide +kernel⟩, List.mem_of_getElem? (i := 1251) (by decide +kernel), List.mem_of_getElem? (i := 1951) (by decide +kernel), List.mem_of_getElem? (i := 1952) (by decide +kernel)⟩
theorem lw_p166 : lw_okq (⟨"HornBridgeModel", "laterBy", "(II)I"⟩, 76) := ⟨⟨by decide +kernel, by decide +kernel⟩, List.mem_of_getElem? (i := 1251) (by decide +kernel), List.mem_of_getElem? (i := 1977) (by decide +kernel), List.mem_of_getElem? (i := 1978) (by decide +kernel)⟩
theorem lw_p167 : lw_okq (⟨"HornBridgeModel", "cameBy", "(I)I"⟩, 76) := ⟨⟨by decide +kernel, by decide +kernel⟩, List.mem_of_getElem? (i := 1251) (by decide +kernel), List.mem_of_getElem? (i := 1993) (by decide +kernel), List.mem_of_getElem? (i := 1994) (by decide +kernel)⟩
theorem lw_p168 : lw_okq (⟨"HornBridgeModel", "costsBy", "(I)I"⟩, 76) := ⟨⟨by decide +kernel, by decide +kernel⟩, List.mem_of_getElem? (i := 1251) (by decide +kernel), List.mem_of_getElem? (i := 1997) (by decide +kernel), List.mem_of_getElem? (i := 1998) (by decide +kernel)⟩
theorem lw_p169 : lw_okq (⟨"HornBridgeModel", "keeps", "(I)V"⟩, 76) := ⟨⟨by decide +kernel, by decide +kernel⟩, List.mem_of_getElem? (i := 1251) (by decide +kernel), List.mem_of_getElem? (i := 2014) (by decide +kernel), List.mem_of_getElem? (i := 2015) (by decide +kernel)⟩
theorem lw_p170 : lw_okq (⟨"HornBridgeModel", "draw", "()I"⟩, 76) := ⟨⟨by decide +kernel, by decide +kernel⟩, List.mem_of_getElem? (i := 1251) (by decide +kernel), List.mem_of_getElem? (i := 2018) (by decide +kernel), List.mem_of_getElem? (i := 2019) (by decide +kernel)⟩
theorem lw_p171 : lw_okq (⟨"HornBridgeModel", "minuteGoes", "()V"⟩, 76) := ⟨⟨by decide +kernel, by decide +kernel⟩, List.mem_of_getElem? (i := 1251) (by decide +kernel), List.mem_of_getElem? (i := 2023) (by decide +kernel), List.mem_of_getElem? (i := 2024) (by decide +kernel)⟩
theorem lw_p172 : lw_okq (⟨"HornBridgeModel", "passesOver", "()V"⟩, 76) := ⟨⟨by decide +kernel, by decide +kernel⟩, List.mem_of_getElem? (i := 1251) (by decide +kernel), List.mem_of_getElem? (i := 2027) (by decide +kernel), List.mem_of_getElem? (i := 2028) (by decide +kernel)⟩
theorem lw_p173 : lw_okq (⟨"HornBridgeModel", "strikes", "()V"⟩, 76) := ⟨⟨by decide +kernel, by decide +kernel⟩, List.mem_of_getElem? (i := 1251) (by decide +kernel), List.mem_of_getElem? (i := 2031) (by decide +kernel), List.mem_of_getElem? (i := 2032) (by decide +kernel)⟩
theorem lw_p174 : lw_okq (⟨"HornBridgeModel", "isBusy", "()Z"⟩, 76) := ⟨⟨by decide +kernel, by decide +kernel⟩, List.mem_of_getElem? (i := 1251) (by decide +kernel), List.mem_of_getElem? (i := 2035) (by decide +kernel), List.mem_of_getElem? (i := 2036) (by decide +kernel)⟩
theorem lw_p175 : lw_okq (⟨"HornBridgeModel", "actNow", "()I"⟩, 76) := ⟨⟨by decide +kernel, by decide +kernel⟩, List.mem_of_getElem? (i := 1251) (by decide +kernel), List.mem_of_getElem? (i := 2039) (by decide +kernel), List.mem_of_getElem? (i := 2040) (by decide +kernel)⟩
def lw_privs_11 : List (MethodName × Nat) := [(⟨"HornBridgeModel", "byShip", "(III)I"⟩, 76), (⟨"HornBridgeModel", "mayCart", "(III)Z"⟩, 76), (⟨"HornBridgeModel", "byCart", "(III)I"⟩, 76), (⟨"HornBridgeModel", "ofCart", "(II)I"⟩, 76), (⟨"HornBridgeModel", "plans", "()Z"⟩, 76), (⟨"HornBridgeModel", "acts", "(III)V"⟩, 76), (⟨"HornBridgeModel", "laterBy", "(II)I"⟩, 76), (⟨"HornBridgeModel", "cameBy", "(I)I"⟩, 76), (⟨"HornBridgeModel", "costsBy", "(I)I"⟩, 76), (⟨"HornBridgeModel", "keeps", "(I)V"⟩, 76), (⟨"HornBridgeModel", "draw", "()I"⟩, 76), (⟨"HornBridgeModel", "minuteGoes", "()V"⟩, 76), (⟨"HornBridgeModel", "passesOver", "()V"⟩, 76), (⟨"HornBridgeModel", "strikes", "()V"⟩, 76), (⟨"HornBridgeModel", "isBusy", "()Z"⟩, 76), (⟨"HornBridgeModel", "actNow", "()I"⟩, 76)]
theorem lw_r11 : ∀ q ∈ lw_privs_11, lw_okq q := List.forall_mem_cons.mpr ⟨lw_p160, List.forall_mem_cons.mpr ⟨lw_p161, List.forall_mem_cons.mpr ⟨lw_p162, List.forall_mem_cons.mpr ⟨lw_p163, List.forall_mem_cons.mpr ⟨lw_p164, List.forall_mem_cons.mpr ⟨lw_p165, List.forall_mem_cons.mpr ⟨lw_p166, List.forall_mem_cons.mpr ⟨lw_p167, List.forall_mem_cons.mpr ⟨lw_p168, List.forall_mem_cons.mpr ⟨lw_p169, List.forall_mem_cons.mpr ⟨lw_p170, List.forall_mem_cons.mpr ⟨lw_p171, List.forall_mem_cons.mpr ⟨lw_p172, List.forall_mem_cons.mpr ⟨lw_p173, List.forall_mem_cons.mpr ⟨lw_p174, List.forall_mem_cons.mpr ⟨lw_p175, fun _ h => absurd h List.not_mem_nil⟩⟩⟩⟩⟩⟩⟩⟩⟩⟩⟩⟩⟩⟩⟩⟩
theorem lw_p176 : lw_okq (⟨"HornBridgeModel", "holds", "(I)Z"⟩, 76) := ⟨⟨by decide +kernel, by decide +kernel⟩, List.mem_of_getElem? (i := 1251) (by decide +kernel), List.mem_of_getElem? (i := 2043) (by decide +kernel), List.mem_of_getElem? (i := 2044) (by decide +kernel)⟩
theorem lw_p177 : lw_okq (⟨"HornBridgeModel", "asked", "(I)Z"⟩, 76) := ⟨⟨by decide +kernel, by decide +kernel⟩, List.mem_of_getElem? (i := 1251) (by decide +kernel), List.mem_of_getElem? (i := 2047) (by decide +kernel), List.mem_of_getElem? (i := 2048) (by decide +kernel)⟩
theorem lw_p178 : lw_okq (⟨"HornBridgeModel", "waitingShips", "()I"⟩, 76) := ⟨⟨by decide +kernel, by decide +kernel⟩, List.mem_of_getElem? (i := 1251) (by decide +kernel), List.mem_of_getElem? (i := 2051) (by decide +kernel), List.mem_of_getElem? (i := 2052) (by decide +kernel)⟩
theorem lw_p179 : lw_okq (⟨"HornBridgeModel", "waitingCarts", "()I"⟩, 76) := ⟨⟨by decide +kernel, by decide +kernel⟩, List.mem_of_getElem? (i := 1251) (by decide +kernel), List.mem_of_getElem? (i := 2055) (by decide +kernel), List.mem_of_getElem? (i := 2056) (by decide +kernel)⟩
theorem lw_p180 : lw_okq (⟨"HornBridgeModel", "nextIn", "()I"⟩, 76) := ⟨⟨by decide +kernel, by decide +kernel⟩, List.mem_of_getElem? (i := 1251) (by decide +kernel), List.mem_of_getElem? (i := 2059) (by decide +kernel), List.mem_of_getElem? (i := 2060) (by decide +kernel)⟩
theorem lw_p181 : lw_okq (⟨"HornBridgeModel", "leftOver", "()I"⟩, 76) := ⟨⟨by decide +kernel, by decide +kernel⟩, List.mem_of_getElem? (i := 1251) (by decide +kernel), List.mem_of_getElem? (i := 2063) (by decide +kernel), List.mem_of_getElem? (i := 2064) (by decide +kernel)⟩
theorem lw_p182 : lw_okq (⟨"HornBridgeModel", "areSeeds", "(II)Z"⟩, 76) := ⟨⟨by decide +kernel, by decide +kernel⟩, List.mem_of_getElem? (i := 1251) (by decide +kernel), List.mem_of_getElem? (i := 2075) (by decide +kernel), List.mem_of_getElem? (i := 2076) (by decide +kernel)⟩
theorem lw_p183 : lw_okq (⟨"HornBridgeModel", "copies", "(II)V"⟩, 76) := ⟨⟨by decide +kernel, by decide +kernel⟩, List.mem_of_getElem? (i := 1251) (by decide +kernel), List.mem_of_getElem? (i := 2087) (by decide +kernel), List.mem_of_getElem? (i := 2088) (by decide +kernel)⟩
def lw_privs_12 : List (MethodName × Nat) := [(⟨"HornBridgeModel", "holds", "(I)Z"⟩, 76), (⟨"HornBridgeModel", "asked", "(I)Z"⟩, 76), (⟨"HornBridgeModel", "waitingShips", "()I"⟩, 76), (⟨"HornBridgeModel", "waitingCarts", "()I"⟩, 76), (⟨"HornBridgeModel", "nextIn", "()I"⟩, 76), (⟨"HornBridgeModel", "leftOver", "()I"⟩, 76), (⟨"HornBridgeModel", "areSeeds", "(II)Z"⟩, 76), (⟨"HornBridgeModel", "copies", "(II)V"⟩, 76)]
theorem lw_r12 : ∀ q ∈ lw_privs_12, lw_okq q := List.forall_mem_cons.mpr ⟨lw_p176, List.forall_mem_cons.mpr ⟨lw_p177, List.forall_mem_cons.mpr ⟨lw_p178, List.forall_mem_cons.mpr ⟨lw_p179, List.forall_mem_cons.mpr ⟨lw_p180, List.forall_mem_cons.mpr ⟨lw_p181, List.forall_mem_cons.mpr ⟨lw_p182, List.forall_mem_cons.mpr ⟨lw_p183, fun _ h => absurd h List.not_mem_nil⟩⟩⟩⟩⟩⟩⟩⟩
def lw_privs : List (MethodName × Nat) := lw_privs_1 ++ (lw_privs_2 ++ (lw_privs_3 ++ (lw_privs_4 ++ (lw_privs_5 ++ (lw_privs_6 ++ (lw_privs_7 ++ (lw_privs_8 ++ (lw_privs_9 ++ (lw_privs_10 ++ (lw_privs_11 ++ (lw_privs_12)))))))))))
def lw_tbl : List Cond := k2_sels lw_privs ++ tables_1
theorem lw_privs_ok : ∀ q ∈ lw_privs, lw_okq q := by
  show ∀ q ∈ lw_privs_1 ++ (lw_privs_2 ++ (lw_privs_3 ++ (lw_privs_4 ++ (lw_privs_5 ++ (lw_privs_6 ++ (lw_privs_7 ++ (lw_privs_8 ++ (lw_privs_9 ++ (lw_privs_10 ++ (lw_privs_11 ++ (lw_privs_12))))))))))), lw_okq q
  exact List.forall_mem_append.mpr ⟨lw_r1, List.forall_mem_append.mpr ⟨lw_r2, List.forall_mem_append.mpr ⟨lw_r3, List.forall_mem_append.mpr ⟨lw_r4, List.forall_mem_append.mpr ⟨lw_r5, List.forall_mem_append.mpr ⟨lw_r6, List.forall_mem_append.mpr ⟨lw_r7, List.forall_mem_append.mpr ⟨lw_r8, List.forall_mem_append.mpr ⟨lw_r9, List.forall_mem_append.mpr ⟨lw_r10, List.forall_mem_append.mpr ⟨lw_r11, lw_r12⟩⟩⟩⟩⟩⟩⟩⟩⟩⟩⟩
-- ===== end of PART A; then your names; then what follows =====
end
section
/-! ===== the shadow machine: values, worlds, pure instructions ===== -/
abbrev x_Lo : Type := List (Nat × Value)
/-- a world: the cells' shapes (an object of a class, or an array of a type and a length), the ints, the longs, the references that they hold -/
abbrev x_G : Type := List (Nat ⊕ (Nat × Nat)) × (Nat → Nat → Int32) × (Nat → Nat → Int64) × (Nat → Nat → Value)
/-- a shadow value: a reference is a place of the world; 'retAddr i' is the i-th thing that stands outside of it -/
def x_cv (bs : Nat) (xa : Nat → Option Nat) : Value → Value
  | .ref k => .ref (bs + k)
  | .retAddr i => va_rf (xa i)
  | v => v
theorem x_cv_cat (bs : Nat) (xa : Nat → Option Nat) (v : Value) : (x_cv bs xa v).category = v.category := by
  cases v <;> try rfl
  rename_i i
  show (va_rf (xa i)).category = 1
  cases xa i <;> rfl
def x_cl (bs : Nat) (xa : Nat → Option Nat) (lo : x_Lo) : x_Lo := lo.map (fun q => (q.1, x_cv bs xa q.2))
/-- instructions of the stack alone -/
def x_alu : Instr → List Value → Option (List Value)
  | .aconst_null, st => some (.null :: st)
  | .iconst n, st => some (.int (Int32.ofInt n) :: st)
  | .bipush n, st => some (.int (Int8.ofInt n).toInt32 :: st)
  | .sipush n, st => some (.int (Int16.ofInt n).toInt32 :: st)
  | .lconst n, st => some (.long (Int64.ofNat (n : Nat)) :: st)
  | .iadd, .int y :: .int x :: r => some (.int (x + y) :: r)
  | .isub, .int y :: .int x :: r => some (.int (x - y) :: r)
  | .imul, .int y :: .int x :: r => some (.int (x * y) :: r)
  | .iand, .int y :: .int x :: r => some (.int (x &&& y) :: r)
  | .ior, .int y :: .int x :: r => some (.int (x ||| y) :: r)
  | .ixor, .int y :: .int x :: r => some (.int (x ^^^ y) :: r)
  | .idiv, .int y :: .int x :: r => if y = 0 then none else some (.int (x / y) :: r)
  | .irem, .int y :: .int x :: r => if y = 0 then none else some (.int (x - x / y * y) :: r)
  | .ishl, .int y :: .int x :: r => some (.int (x <<< (y &&& 31)) :: r)
  | .ishr, .int y :: .int x :: r => some (.int (x >>> (y &&& 31)) :: r)
  | .iushr, .int y :: .int x :: r => some (.int (x.toUInt32 >>> (y.toUInt32 &&& Int32.toUInt32 31)).toInt32 :: r)
  | .ladd, .long y :: .long x :: r => some (.long (x + y) :: r)
  | .lsub, .long y :: .long x :: r => some (.long (x - y) :: r)
  | .lmul, .long y :: .long x :: r => some (.long (x * y) :: r)
  | .land, .long y :: .long x :: r => some (.long (x &&& y) :: r)
  | .lor, .long y :: .long x :: r => some (.long (x ||| y) :: r)
  | .lxor, .long y :: .long x :: r => some (.long (x ^^^ y) :: r)
  | .ldiv, .long y :: .long x :: r => if y = 0 then none else some (.long (x / y) :: r)
  | .lrem, .long y :: .long x :: r => if y = 0 then none else some (.long (x - x / y * y) :: r)
  | .lshl, .int y :: .long x :: r => some (.long (x <<< (y.toInt64 &&& 63)) :: r)
  | .lshr, .int y :: .long x :: r => some (.long (x >>> (y.toInt64 &&& 63)) :: r)
  | .lushr, .int y :: .long x :: r => some (.long (x.toUInt64 >>> (y.toInt64.toUInt64 &&& Int64.toUInt64 63)).toInt64 :: r)
  | .lcmp, .long y :: .long x :: r => some (.int (lg_cmp x y) :: r)
  | .i2l, .int x :: r => some (.long x.toInt64 :: r)
  | .l2i, .long x :: r => some (.int x.toInt32 :: r)
  | .i2b, .int x :: r => some (.int x.toInt8.toInt32 :: r)
  | .i2s, .int x :: r => some (.int x.toInt16.toInt32 :: r)
  | .i2c, .int x :: r => some (.int (x.toUInt32 % 65536).toInt32 :: r)
  | .dup, v :: r => if v.category = 1 then some (v :: v :: r) else none
  | .pop, v :: r => if v.category = 1 then some r else none
  | .dup_x1, v :: w :: r => if v.category = 1 ∧ w.category = 1 then some (v :: w :: v :: r) else none
  | .dup2, v :: w :: r => if v.category = 1 ∧ w.category = 1 then some (v :: w :: v :: w :: r) else none
  | _, _ => none
/-- how long such an instruction is -/
def x_len : Instr → Nat
  | .bipush _ | .iload _ | .lload _ | .aload _ | .istore _ | .lstore _ | .astore _ | .ldc _ | .newarray _ => 2
  | .sipush _ | .iinc _ _ | .ifCond _ _ | .if_icmp _ _ | .if_acmp _ _ | .ifnull _ | .ifnonnull _ | .goto _ | .ldc_w _ | .ldc2_w _ | .getfield _ | .putfield _ | .getstatic _ | .new _ | .anewarray _ | .invokevirtual _ | .invokespecial _ | .invokestatic _ => 3
  | _ => 1
section XALU
variable {p : Program} {l : Launch} {e : Env} {R : Room} {s : State} {m : MethodId} {args : Array Value} {below : List Frame} {meth : Method} {c : Code} {H : Heap} {locs : List Loc} {cells slots : Nat} {Q : State → Prop}
variable {cc : ByteArray} {pc : Nat} {ls : Array Slot} {bs : Nat} {xa : Nat → Option Nat}
set_option maxHeartbeats 4000000 in
theorem x_alu_ok (hx : p.tables.exec = Jvm.exec) (hb : c.code = cc) {ins : Instr} {st st' : List Value} (hdg : decode cc pc = .ok (ins, x_len ins)) (h : x_alu ins st = some st')
    (k : W p l e R s m args below meth c H locs cells slots Q (F0 m (pc + x_len ins) ls (st'.map (x_cv bs xa)))) : W p l e R s m args below meth c H locs cells slots Q (F0 m pc ls (st.map (x_cv bs xa))) := by
  unfold x_alu at h
  split at h
  case _ => cases h; exact lv_null hx hb hdg k
  case _ => cases h; exact lv_iconst hx hb hdg rfl k
  case _ => cases h; exact lv_bipush hx hb hdg rfl k
  case _ => cases h; exact lv_sipush hx hb hdg rfl k
  case _ => cases h; exact lv_lconst hx hb hdg rfl k
  case _ => cases h; exact lv_iadd hx hb hdg k
  case _ => cases h; exact lv_isub hx hb hdg k
  case _ => cases h; exact lv_imul hx hb hdg k
  case _ => cases h; exact lv_iand hx hb hdg k
  case _ => cases h; exact lv_ior hx hb hdg k
  case _ => cases h; exact lv_ixor hx hb hdg k
  case _ => split at h; · cases h
            next hne => cases h; exact lv_idiv hx hb hdg hne k
  case _ => split at h; · cases h
            next hne => cases h; exact lv_irem hx hb hdg hne k
  case _ => cases h; exact lv_ishl hx hb hdg k
  case _ => cases h; exact lv_ishr hx hb hdg k
  case _ => cases h; exact lv_iushr hx hb hdg rfl k
  case _ => cases h; exact lv_ladd hx hb hdg k
  case _ => cases h; exact lv_lsub hx hb hdg k
  case _ => cases h; exact lv_lmul hx hb hdg k
  case _ => cases h; exact lv_land hx hb hdg k
  case _ => cases h; exact lv_lor hx hb hdg k
  case _ => cases h; exact lv_lxor hx hb hdg k
  case _ => split at h; · cases h
            next hne => cases h; exact lv_ldiv hx hb hdg hne k
  case _ => split at h; · cases h
            next hne => cases h; exact lv_lrem hx hb hdg hne k
  case _ => cases h; exact lv_lshl hx hb hdg rfl k
  case _ => cases h; exact lv_lshr hx hb hdg rfl k
  case _ => cases h; exact lv_lushr hx hb hdg rfl k
  case _ => cases h; exact W.lcmp hx hb hdg k
  case _ => cases h; exact lv_i2l hx hb hdg rfl k
  case _ => cases h; exact lv_l2i hx hb hdg rfl k
  case _ => cases h; exact lv_i2b hx hb hdg rfl k
  case _ => cases h; exact lv_i2s hx hb hdg rfl k
  case _ => cases h; exact lv_i2c hx hb hdg rfl k
  case _ => split at h
            · next hc => cases h; exact lv_dup hx hb hdg (by rw [x_cv_cat]; exact hc) k
            · cases h
  case _ => split at h
            · next hc => cases h; exact lv_pop hx hb hdg (by rw [x_cv_cat]; exact hc) k
            · cases h
  case _ => split at h
            · next hc => cases h; exact lv_dup_x1 hx hb hdg (by rw [x_cv_cat]; exact hc.1) (by rw [x_cv_cat]; exact hc.2) k
            · cases h
  case _ => split at h
            · next hc => cases h; exact lv_dup2_11 hx hb hdg (by rw [x_cv_cat]; exact hc.1) (by rw [x_cv_cat]; exact hc.2) k
            · cases h
  case _ => cases h
end XALU
end
section
/-! ===== the shadow machine: locals and branches ===== -/
def x_get : x_Lo → Nat → Option Value
  | [], _ => none
  | (j, v) :: r, i => if j = i then some v else x_get r i
def x_set1 (lo : x_Lo) (i : Nat) (v : Value) : x_Lo := (i, v) :: lo.filter (fun q => !(q.1 == i) && !(q.1 + 1 == i && q.2.category == 2))
def x_set2 (lo : x_Lo) (i : Nat) (v : Value) : x_Lo := (i, v) :: lo.filter (fun q => !(q.1 == i) && (!(q.1 == i + 1) && !(q.1 + 1 == i && q.2.category == 2)))
theorem x_get_mem : ∀ {lo : x_Lo} {i : Nat} {v : Value}, x_get lo i = some v → (i, v) ∈ lo
  | (j, w) :: r, i, v, h => by
    unfold x_get at h
    split at h
    next hj => subst hj; cases h; exact List.mem_cons_self
    next hj => exact List.mem_cons_of_mem _ (x_get_mem h)
theorem x_get_at {ls : Array Slot} {nL bs : Nat} {xa : Nat → Option Nat} {lo : x_Lo} {i : Nat} {v : Value} (hl : lv_has ls nL (x_cl bs xa lo)) (h : x_get lo i = some v) : ls[i]? = some (.val (x_cv bs xa v)) :=
  hl.2.2 (i, x_cv bs xa v) (List.mem_map.mpr ⟨(i, v), x_get_mem h, rfl⟩)
theorem x_cl_set1 (bs : Nat) (xa : Nat → Option Nat) (lo : x_Lo) (i : Nat) (v : Value) : (i, x_cv bs xa v) :: (x_cl bs xa lo).filter (fun q => !(q.1 == i) && !(q.1 + 1 == i && q.2.category == 2)) = x_cl bs xa (x_set1 lo i v) := by
  unfold x_cl x_set1
  rw [List.filter_map, List.map_cons]
  congr 2
  congr 1
  funext q
  simp [Function.comp, x_cv_cat]
theorem x_cl_set2 (bs : Nat) (xa : Nat → Option Nat) (lo : x_Lo) (i : Nat) (v : Value) : (i, x_cv bs xa v) :: (x_cl bs xa lo).filter (fun q => !(q.1 == i) && (!(q.1 == i + 1) && !(q.1 + 1 == i && q.2.category == 2))) = x_cl bs xa (x_set2 lo i v) := by
  unfold x_cl x_set2
  rw [List.filter_map, List.map_cons]
  congr 2
  congr 1
  funext q
  simp [Function.comp, x_cv_cat]
def x_isI : Value → Bool | .int _ => true | _ => false
def x_isL : Value → Bool | .long _ => true | _ => false
/-- references: places, null, the known things outside -/
def x_isR : Value → Bool | .ref _ => true | .null => true | .retAddr _ => true | _ => false
def x_ld (t : Value → Bool) (lo : x_Lo) (i : Nat) (st : List Value) : Option (x_Lo × List Value) := match x_get lo i with
  | some v => if t v = true then some (lo, v :: st) else none
  | none => none
def x_st (nL : Nat) (t : Value → Bool) (lo : x_Lo) (i : Nat) : List Value → Option (x_Lo × List Value)
  | v :: r => if t v = true ∧ i < nL then some (x_set1 lo i v, r) else none
  | [] => none
def x_st2 (nL : Nat) (lo : x_Lo) (i : Nat) : List Value → Option (x_Lo × List Value)
  | .long x :: r => if i + 1 < nL then some (x_set2 lo i (.long x), r) else none
  | _ => none
def x_loc (nL : Nat) : Instr → x_Lo → List Value → Option (x_Lo × List Value)
  | .iload_n k, lo, st => x_ld x_isI lo k st
  | .iload i, lo, st => x_ld x_isI lo i st
  | .lload_n k, lo, st => x_ld x_isL lo k st
  | .lload i, lo, st => x_ld x_isL lo i st
  | .aload_n k, lo, st => x_ld x_isR lo k st
  | .aload i, lo, st => x_ld x_isR lo i st
  | .istore_n k, lo, st => x_st nL x_isI lo k st
  | .istore i, lo, st => x_st nL x_isI lo i st
  | .astore_n k, lo, st => x_st nL x_isR lo k st
  | .astore i, lo, st => x_st nL x_isR lo i st
  | .lstore_n k, lo, st => x_st2 nL lo k st
  | .lstore i, lo, st => x_st2 nL lo i st
  | .iinc i n, lo, st => match x_get lo i with
    | some (.int x) => if i < nL then some (x_set1 lo i (.int (x + Int32.ofInt n)), st) else none
    | _ => none
  | _, _, _ => none
theorem x_ld_spec {t : Value → Bool} {lo lo' : x_Lo} {i : Nat} {st st' : List Value} (h : x_ld t lo i st = some (lo', st')) : ∃ v, x_get lo i = some v ∧ t v = true ∧ lo' = lo ∧ st' = v :: st := by
  unfold x_ld at h
  split at h
  next v hv =>
    split at h
    next ht => cases h; exact ⟨v, hv, ht, rfl, rfl⟩
    next => cases h
  next => cases h
theorem x_st_spec {nL : Nat} {t : Value → Bool} {lo lo' : x_Lo} {i : Nat} {st st' : List Value} (h : x_st nL t lo i st = some (lo', st')) : ∃ v, st = v :: st' ∧ t v = true ∧ i < nL ∧ lo' = x_set1 lo i v := by
  unfold x_st at h
  split at h
  next v r =>
    split at h
    next ht => cases h; exact ⟨v, rfl, ht.1, ht.2, rfl⟩
    next => cases h
  next => cases h
theorem x_st2_spec {nL : Nat} {lo lo' : x_Lo} {i : Nat} {st st' : List Value} (h : x_st2 nL lo i st = some (lo', st')) : ∃ x, st = .long x :: st' ∧ i + 1 < nL ∧ lo' = x_set2 lo i (.long x) := by
  unfold x_st2 at h
  split at h
  next x r =>
    split at h
    next ht => cases h; exact ⟨x, rfl, ht, rfl⟩
    next => cases h
  next => cases h
section XLOC
variable {p : Program} {l : Launch} {e : Env} {R : Room} {s : State} {m : MethodId} {args : Array Value} {below : List Frame} {meth : Method} {c : Code} {H : Heap} {locs : List Loc} {cells slots : Nat} {Q : State → Prop}
variable {cc : ByteArray} {pc : Nat} {ls : Array Slot} {bs : Nat} {xa : Nat → Option Nat} {rest : List Value}
theorem x_aload_n (hx : p.tables.exec = Jvm.exec) (hb : c.code = cc) {k : Fin 4} {v : Value} (hdg : decode cc pc = .ok (.aload_n k, 1)) (ht : x_isR v = true) (hl : ls[(k : Nat)]? = some (.val (x_cv bs xa v)))
    (kk : W p l e R s m args below meth c H locs cells slots Q (F0 m (pc + 1) ls (x_cv bs xa v :: rest))) : W p l e R s m args below meth c H locs cells slots Q (F0 m pc ls rest) := by
  cases v with
  | ref a => exact lv_aload_n hx hb hdg rfl hl kk
  | null => exact lv_aload_nN hx hb hdg rfl hl kk
  | retAddr i =>
    revert hl kk
    simp only [x_cv]
    cases xa i with
    | none => exact fun hl kk => lv_aload_nN hx hb hdg rfl hl kk
    | some a => exact fun hl kk => lv_aload_n hx hb hdg rfl hl kk
  | _ => cases ht
theorem x_aload (hx : p.tables.exec = Jvm.exec) (hb : c.code = cc) {k : Nat} {v : Value} (hdg : decode cc pc = .ok (.aload k, 2)) (ht : x_isR v = true) (hl : ls[k]? = some (.val (x_cv bs xa v)))
    (kk : W p l e R s m args below meth c H locs cells slots Q (F0 m (pc + 2) ls (x_cv bs xa v :: rest))) : W p l e R s m args below meth c H locs cells slots Q (F0 m pc ls rest) := by
  cases v with
  | ref a => exact lv_aload hx hb hdg hl kk
  | null => exact lv_aloadN hx hb hdg hl kk
  | retAddr i =>
    revert hl kk
    simp only [x_cv]
    cases xa i with
    | none => exact fun hl kk => lv_aloadN hx hb hdg hl kk
    | some a => exact fun hl kk => lv_aload hx hb hdg hl kk
  | _ => cases ht
theorem x_astore_n (hx : p.tables.exec = Jvm.exec) (hb : c.code = cc) {k : Fin 4} {nL : Nat} {lo : x_Lo} {v : Value} (hdg : decode cc pc = .ok (.astore_n k, 1)) (ht : x_isR v = true) (hl : lv_has ls nL (x_cl bs xa lo)) (hn : (k : Nat) < nL)
    (kk : ∀ ls' : Array Slot, lv_has ls' nL (x_cl bs xa (x_set1 lo k v)) → W p l e R s m args below meth c H locs cells slots Q (F0 m (pc + 1) ls' rest)) : W p l e R s m args below meth c H locs cells slots Q (F0 m pc ls (x_cv bs xa v :: rest)) := by
  have hs := x_cl_set1 bs xa lo k v
  cases v with
  | ref a => exact lv_astore_n hx hb hdg rfl hl hn hs kk
  | null => exact lv_astore_nN hx hb hdg rfl hl hn hs kk
  | retAddr i =>
    revert hs
    simp only [x_cv]
    cases xa i with
    | none => exact fun hs => lv_astore_nN hx hb hdg rfl hl hn hs kk
    | some a => exact fun hs => lv_astore_n hx hb hdg rfl hl hn hs kk
  | _ => cases ht
theorem x_astore (hx : p.tables.exec = Jvm.exec) (hb : c.code = cc) {k : Nat} {nL : Nat} {lo : x_Lo} {v : Value} (hdg : decode cc pc = .ok (.astore k, 2)) (ht : x_isR v = true) (hl : lv_has ls nL (x_cl bs xa lo)) (hn : k < nL)
    (kk : ∀ ls' : Array Slot, lv_has ls' nL (x_cl bs xa (x_set1 lo k v)) → W p l e R s m args below meth c H locs cells slots Q (F0 m (pc + 2) ls' rest)) : W p l e R s m args below meth c H locs cells slots Q (F0 m pc ls (x_cv bs xa v :: rest)) := by
  have hs := x_cl_set1 bs xa lo k v
  cases v with
  | ref a => exact lv_astore hx hb hdg hl hn hs kk
  | null => exact lv_astoreN hx hb hdg hl hn hs kk
  | retAddr i =>
    revert hs
    simp only [x_cv]
    cases xa i with
    | none => exact fun hs => lv_astoreN hx hb hdg hl hn hs kk
    | some a => exact fun hs => lv_astore hx hb hdg hl hn hs kk
  | _ => cases ht
theorem x_isI_spec {v : Value} (h : x_isI v = true) : ∃ x, v = .int x := by cases v <;> first | exact ⟨_, rfl⟩ | cases h
theorem x_isL_spec {v : Value} (h : x_isL v = true) : ∃ x, v = .long x := by cases v <;> first | exact ⟨_, rfl⟩ | cases h
set_option maxHeartbeats 4000000 in
theorem x_loc_ok (hx : p.tables.exec = Jvm.exec) (hb : c.code = cc) {ins : Instr} {nL : Nat} {lo lo' : x_Lo} {st st' : List Value} (hdg : decode cc pc = .ok (ins, x_len ins)) (h : x_loc nL ins lo st = some (lo', st')) (hl : lv_has ls nL (x_cl bs xa lo))
    (k : ∀ ls' : Array Slot, lv_has ls' nL (x_cl bs xa lo') → W p l e R s m args below meth c H locs cells slots Q (F0 m (pc + x_len ins) ls' (st'.map (x_cv bs xa)))) : W p l e R s m args below meth c H locs cells slots Q (F0 m pc ls (st.map (x_cv bs xa))) := by
  unfold x_loc at h
  split at h
  case _ => obtain ⟨v, h1, h2, rfl, rfl⟩ := x_ld_spec h; obtain ⟨x, rfl⟩ := x_isI_spec h2; exact lv_iload_n hx hb hdg rfl (x_get_at hl h1) (k _ hl)
  case _ => obtain ⟨v, h1, h2, rfl, rfl⟩ := x_ld_spec h; obtain ⟨x, rfl⟩ := x_isI_spec h2; exact lv_iload hx hb hdg (x_get_at hl h1) (k _ hl)
  case _ => obtain ⟨v, h1, h2, rfl, rfl⟩ := x_ld_spec h; obtain ⟨x, rfl⟩ := x_isL_spec h2; exact lv_lload_n hx hb hdg rfl (x_get_at hl h1) (k _ hl)
  case _ => obtain ⟨v, h1, h2, rfl, rfl⟩ := x_ld_spec h; obtain ⟨x, rfl⟩ := x_isL_spec h2; exact lv_lload hx hb hdg (x_get_at hl h1) (k _ hl)
  case _ => obtain ⟨v, h1, h2, rfl, rfl⟩ := x_ld_spec h; exact x_aload_n hx hb hdg h2 (x_get_at hl h1) (k _ hl)
  case _ => obtain ⟨v, h1, h2, rfl, rfl⟩ := x_ld_spec h; exact x_aload hx hb hdg h2 (x_get_at hl h1) (k _ hl)
  case _ => obtain ⟨v, rfl, h2, h3, rfl⟩ := x_st_spec h; obtain ⟨x, rfl⟩ := x_isI_spec h2; exact lv_istore_n hx hb hdg rfl hl h3 (x_cl_set1 bs xa _ _ (.int x)) k
  case _ => obtain ⟨v, rfl, h2, h3, rfl⟩ := x_st_spec h; obtain ⟨x, rfl⟩ := x_isI_spec h2; exact lv_istore hx hb hdg hl h3 (x_cl_set1 bs xa _ _ (.int x)) k
  case _ => obtain ⟨v, rfl, h2, h3, rfl⟩ := x_st_spec h; exact x_astore_n hx hb hdg h2 hl h3 k
  case _ => obtain ⟨v, rfl, h2, h3, rfl⟩ := x_st_spec h; exact x_astore hx hb hdg h2 hl h3 k
  case _ => obtain ⟨x, rfl, h3, rfl⟩ := x_st2_spec h; exact lv_lstore_n hx hb hdg rfl hl h3 (x_cl_set2 bs xa _ _ (.long x)) k
  case _ => obtain ⟨x, rfl, h3, rfl⟩ := x_st2_spec h; exact lv_lstore hx hb hdg hl h3 (x_cl_set2 bs xa _ _ (.long x)) k
  case _ =>
    split at h
    next x hg =>
      split at h
      next hn =>
        cases h
        have hm := x_get_mem hg
        obtain ⟨j, hj⟩ := List.getElem?_of_mem hm
        exact lv_iinc (k := j) hx hb hdg hl (by unfold x_cl; rw [List.getElem?_map, hj]; rfl) rfl hn (x_cl_set1 bs xa _ _ (.int (x + Int32.ofInt _))) k
      next => cases h
    next => cases h
  case _ => cases h
/-- what is known of the things outside: the first 40 are references below the world, all different -/
def x_XA (bs : Nat) (xa : Nat → Option Nat) : Prop := (∀ i, i < 40 → ∃ a, xa i = some a ∧ a < bs) ∧ ∀ i j, i < 40 → j < 40 → xa i = xa j → i = j
def x_known : Value → Bool | .ref _ => true | .null => true | .retAddr i => decide (i < 40) | _ => false
def x_ro (bs : Nat) (xa : Nat → Option Nat) : Value → Option Nat | .ref k => some (bs + k) | .retAddr i => xa i | _ => none
theorem x_ro_cv {bs : Nat} {xa : Nat → Option Nat} {v : Value} (h : x_known v = true) : x_cv bs xa v = va_rf (x_ro bs xa v) := by
  cases v <;> first | rfl | cases h
theorem x_ro_eq {bs : Nat} {xa : Nat → Option Nat} (hX : x_XA bs xa) {v w : Value} (h : x_known v = true) (h2 : x_known w = true) : x_ro bs xa v = x_ro bs xa w ↔ v = w := by
  constructor
  · intro he
    match v, w, h, h2, he with
    | .ref a, .ref b, _, _, he => rw [Nat.add_left_cancel (Option.some.inj he : bs + a = bs + b)]
    | .ref a, .null, _, _, he => cases he
    | .null, .ref a, _, _, he => cases he
    | .null, .null, _, _, _ => rfl
    | .ref a, .retAddr i, _, h2, he =>
      obtain ⟨q, h3, h4⟩ := hX.1 i (by simpa [x_known] using h2)
      simp only [x_ro, h3, Option.some.injEq] at he
      omega
    | .retAddr i, .ref a, h, _, he =>
      obtain ⟨q, h3, h4⟩ := hX.1 i (by simpa [x_known] using h)
      simp only [x_ro, h3, Option.some.injEq] at he
      omega
    | .null, .retAddr i, _, h2, he =>
      obtain ⟨q, h3, h4⟩ := hX.1 i (by simpa [x_known] using h2)
      simp [x_ro, h3] at he
    | .retAddr i, .null, h, _, he =>
      obtain ⟨q, h3, h4⟩ := hX.1 i (by simpa [x_known] using h)
      simp [x_ro, h3] at he
    | .retAddr i, .retAddr j, h, h2, he => rw [hX.2 i j (by simpa [x_known] using h) (by simpa [x_known] using h2) he]
  · intro he; rw [he]
/-- branches: 'a' is the target -/
def x_br (a pc : Nat) : Instr → List Value → Option (Nat × List Value)
  | .ifCond .eq _, .int x :: r => some (if x = 0 then a else pc + 3, r)
  | .ifCond .ne _, .int x :: r => some (if x = 0 then pc + 3 else a, r)
  | .ifCond .lt _, .int x :: r => some (if x < 0 then a else pc + 3, r)
  | .ifCond .ge _, .int x :: r => some (if 0 ≤ x then a else pc + 3, r)
  | .ifCond .gt _, .int x :: r => some (if 0 < x then a else pc + 3, r)
  | .ifCond .le _, .int x :: r => some (if x ≤ 0 then a else pc + 3, r)
  | .if_icmp .eq _, .int y :: .int x :: r => some (if x = y then a else pc + 3, r)
  | .if_icmp .ne _, .int y :: .int x :: r => some (if x = y then pc + 3 else a, r)
  | .if_icmp .lt _, .int y :: .int x :: r => some (if x < y then a else pc + 3, r)
  | .if_icmp .ge _, .int y :: .int x :: r => some (if y ≤ x then a else pc + 3, r)
  | .if_icmp .gt _, .int y :: .int x :: r => some (if y < x then a else pc + 3, r)
  | .if_icmp .le _, .int y :: .int x :: r => some (if x ≤ y then a else pc + 3, r)
  | .goto _, st => some (a, st)
  | .ifnull _, v :: r => if x_known v = true then some (if v = .null then a else pc + 3, r) else none
  | .ifnonnull _, v :: r => if x_known v = true then some (if v = .null then pc + 3 else a, r) else none
  | .if_acmp .eq _, w :: v :: r => if x_known v = true ∧ x_known w = true then some (if v = w then a else pc + 3, r) else none
  | .if_acmp .ne _, w :: v :: r => if x_known v = true ∧ x_known w = true then some (if v = w then pc + 3 else a, r) else none
  | .tableswitch d lo hi offs, .int x :: r => if x.toInt < lo ∨ hi < x.toInt then (if 0 ≤ (pc : Int) + d then some (((pc : Int) + d).toNat, r) else none) else match offs.toList[(x.toInt - lo).toNat]? with
    | some o => if 0 ≤ (pc : Int) + o then some (((pc : Int) + o).toNat, r) else none
    | none => none
  | .lookupswitch d ps, .int x :: r => if (ps.toList.zip (ps.toList.drop 1)).all (fun (a, next) => a.1 < next.1) = true ∧ 0 ≤ (pc : Int) + Op.lookupswitch.offset ps.toList d x.toInt then some (((pc : Int) + Op.lookupswitch.offset ps.toList d x.toInt).toNat, r) else none
  | _, _ => none
/-- the offset of a branch that has one -/
def x_off : Instr → Option Int
  | .ifCond _ o | .if_icmp _ o | .goto o | .ifnull o | .ifnonnull o | .if_acmp _ o => some o
  | _ => none
theorem x_if {A : Prop} [Decidable A] {a b : Nat} {P : Nat → Prop} (k : P (if A then a else b)) : (A → P a) ∧ (¬ A → P b) := by
  by_cases h : A
  · rw [if_pos h] at k; exact ⟨fun _ => k, fun n => absurd h n⟩
  · rw [if_neg h] at k; exact ⟨fun n => absurd n h, fun _ => k⟩
set_option maxHeartbeats 4000000 in
theorem x_br_ok (hx : p.tables.exec = Jvm.exec) (hb : c.code = cc) (hX : x_XA bs xa) {ins : Instr} {a len pc' : Nat} {st st' : List Value} (hdg : decode cc pc = .ok (ins, len)) (hlen : x_off ins ≠ none → len = 3) (hoff : ∀ o, x_off ins = some o → (pc : Int) + o = (a : Int)) (h : x_br a pc ins st = some (pc', st'))
    (k : W p l e R s m args below meth c H locs cells slots Q (F0 m pc' ls (st'.map (x_cv bs xa)))) : W p l e R s m args below meth c H locs cells slots Q (F0 m pc ls (st.map (x_cv bs xa))) := by
  unfold x_br at h
  split at h
  case _ => cases h; cases hlen (by simp [x_off]); have k := x_if (P := fun q => W p l e R s m args below meth c H locs cells slots Q (F0 m q ls _)) k; exact lv_if_eq hx hb hdg (hoff _ rfl) k.1 k.2
  case _ => cases h; cases hlen (by simp [x_off]); have k := x_if (P := fun q => W p l e R s m args below meth c H locs cells slots Q (F0 m q ls _)) k; exact lv_if_ne hx hb hdg (hoff _ rfl) k.2 k.1
  case _ => cases h; cases hlen (by simp [x_off]); have k := x_if (P := fun q => W p l e R s m args below meth c H locs cells slots Q (F0 m q ls _)) k; exact lv_if_lt hx hb hdg (hoff _ rfl) k.1 k.2
  case _ => cases h; cases hlen (by simp [x_off]); have k := x_if (P := fun q => W p l e R s m args below meth c H locs cells slots Q (F0 m q ls _)) k; exact lv_if_ge hx hb hdg (hoff _ rfl) k.1 k.2
  case _ => cases h; cases hlen (by simp [x_off]); have k := x_if (P := fun q => W p l e R s m args below meth c H locs cells slots Q (F0 m q ls _)) k; exact lv_if_gt hx hb hdg (hoff _ rfl) k.1 k.2
  case _ => cases h; cases hlen (by simp [x_off]); have k := x_if (P := fun q => W p l e R s m args below meth c H locs cells slots Q (F0 m q ls _)) k; exact lv_if_le hx hb hdg (hoff _ rfl) k.1 k.2
  case _ => cases h; cases hlen (by simp [x_off]); have k := x_if (P := fun q => W p l e R s m args below meth c H locs cells slots Q (F0 m q ls _)) k; exact lv_icmp_eq hx hb hdg (hoff _ rfl) k.1 k.2
  case _ => cases h; cases hlen (by simp [x_off]); have k := x_if (P := fun q => W p l e R s m args below meth c H locs cells slots Q (F0 m q ls _)) k; exact lv_icmp_ne hx hb hdg (hoff _ rfl) k.2 k.1
  case _ => cases h; cases hlen (by simp [x_off]); have k := x_if (P := fun q => W p l e R s m args below meth c H locs cells slots Q (F0 m q ls _)) k; exact lv_icmp_lt hx hb hdg (hoff _ rfl) k.1 k.2
  case _ => cases h; cases hlen (by simp [x_off]); have k := x_if (P := fun q => W p l e R s m args below meth c H locs cells slots Q (F0 m q ls _)) k; exact lv_icmp_ge hx hb hdg (hoff _ rfl) k.1 k.2
  case _ => cases h; cases hlen (by simp [x_off]); have k := x_if (P := fun q => W p l e R s m args below meth c H locs cells slots Q (F0 m q ls _)) k; exact lv_icmp_gt hx hb hdg (hoff _ rfl) k.1 k.2
  case _ => cases h; cases hlen (by simp [x_off]); have k := x_if (P := fun q => W p l e R s m args below meth c H locs cells slots Q (F0 m q ls _)) k; exact lv_icmp_le hx hb hdg (hoff _ rfl) k.1 k.2
  case _ => cases h; cases hlen (by simp [x_off]); exact lv_goto hx hb hdg (hoff _ rfl) k
  case _ o v r =>
    split at h
    next hk =>
      cases h; cases hlen (by simp [x_off])
      show W p l e R s m args below meth c H locs cells slots Q (F0 m pc ls (x_cv bs xa v :: _))
      cases v with
      | null => exact lv_ifnullN hx hb hdg (hoff _ rfl) k
      | ref q => exact lv_ifnull hx hb hdg (by rw [if_neg (by intro q; cases q)] at k; exact k)
      | retAddr i =>
        obtain ⟨q, h3, -⟩ := hX.1 i (by simpa [x_known] using hk)
        simp only [x_cv, h3, va_rf]
        exact lv_ifnull hx hb hdg (by rw [if_neg (by intro q; cases q)] at k; exact k)
      | _ => cases hk
    next => cases h
  case _ o v r =>
    split at h
    next hk =>
      cases h; cases hlen (by simp [x_off])
      show W p l e R s m args below meth c H locs cells slots Q (F0 m pc ls (x_cv bs xa v :: _))
      cases v with
      | null => exact lv_ifnonnullN hx hb hdg k
      | ref q => exact lv_ifnonnull hx hb hdg (hoff _ rfl) (by rw [if_neg (by intro q; cases q)] at k; exact k)
      | retAddr i =>
        obtain ⟨q, h3, -⟩ := hX.1 i (by simpa [x_known] using hk)
        simp only [x_cv, h3, va_rf]
        exact lv_ifnonnull hx hb hdg (hoff _ rfl) (by rw [if_neg (by intro q; cases q)] at k; exact k)
      | _ => cases hk
    next => cases h
  case _ o w v r =>
    split at h
    next hk =>
      cases h; cases hlen (by simp [x_off])
      have k := x_if (P := fun q => W p l e R s m args below meth c H locs cells slots Q (F0 m q ls _)) k
      show W p l e R s m args below meth c H locs cells slots Q (F0 m pc ls (x_cv bs xa w :: x_cv bs xa v :: _))
      rw [x_ro_cv hk.1, x_ro_cv hk.2]
      exact lv_acmp_eq hx hb hdg (hoff _ rfl) (fun q => k.1 ((x_ro_eq hX hk.1 hk.2).mp q)) (fun q => k.2 (fun z => q ((x_ro_eq hX hk.1 hk.2).mpr z)))
    next => cases h
  case _ o w v r =>
    split at h
    next hk =>
      cases h; cases hlen (by simp [x_off])
      have k := x_if (P := fun q => W p l e R s m args below meth c H locs cells slots Q (F0 m q ls _)) k
      show W p l e R s m args below meth c H locs cells slots Q (F0 m pc ls (x_cv bs xa w :: x_cv bs xa v :: _))
      rw [x_ro_cv hk.1, x_ro_cv hk.2]
      exact lv_acmp_ne hx hb hdg (hoff _ rfl) (fun q => k.2 (fun z => q ((x_ro_eq hX hk.1 hk.2).mpr z))) (fun q => k.1 ((x_ro_eq hX hk.1 hk.2).mp q))
    next => cases h
  case _ d lo hi offs x r =>
    split at h
    next hr =>
      split at h
      next h0 => cases h; exact lv_tableOut hx hb hdg hr (Int.toNat_of_nonneg h0).symm k
      next => cases h
    next hr =>
      split at h
      next o ho =>
        split at h
        next h0 => cases h; exact lv_tableIn hx hb hdg (fun q => hr (Or.inl q)) (fun q => hr (Or.inr q)) (by rw [← Array.getElem?_toList]; exact ho) (Int.toNat_of_nonneg h0).symm k
        next => cases h
      next => cases h
  case _ d ps x r =>
    split at h
    next h0 => cases h; exact lv_lookup hx hb hdg h0.1 rfl (Int.toNat_of_nonneg h0.2).symm k
    next => cases h
  case _ => cases h
end XLOC
end
