section
-- ===== PART A: goes FIRST, ahead of the names: the tables' words, and 'selects' of the private methods out of them =====
/-- a private method of a class that the tables say can be made, by its rows of tables_1 -/
def lw_okq (q : MethodName × Nat) : Prop := (q.1.cls ≠ "java/lang/invoke/MethodHandle" ∧ q.1.cls ≠ "java/lang/invoke/VarHandle") ∧ Cond.instantiable q.1.cls q.2 ∈ tables_1 ∧ Cond.privateMethod q.1 ∈ tables_1 ∧ Cond.instanceMethod q.1 ∈ tables_1
theorem lw_p0 : lw_okq (⟨"HornBridge", "isTray", "(I)Z"⟩, 18) := ⟨⟨by decide +kernel, by decide +kernel⟩, List.mem_of_getElem? (i := 24) (by decide +kernel), List.mem_of_getElem? (i := 383) (by decide +kernel), List.mem_of_getElem? (i := 384) (by decide +kernel)⟩
theorem lw_p1 : lw_okq (⟨"HornBridge", "deny", "(I)Z"⟩, 18) := ⟨⟨by decide +kernel, by decide +kernel⟩, List.mem_of_getElem? (i := 24) (by decide +kernel), List.mem_of_getElem? (i := 387) (by decide +kernel), List.mem_of_getElem? (i := 388) (by decide +kernel)⟩
theorem lw_p2 : lw_okq (⟨"HornBridge$Tray", "lay", "(II)V"⟩, 3) := ⟨⟨by decide +kernel, by decide +kernel⟩, List.mem_of_getElem? (i := 294) (by decide +kernel), List.mem_of_getElem? (i := 391) (by decide +kernel), List.mem_of_getElem? (i := 392) (by decide +kernel)⟩
theorem lw_p3 : lw_okq (⟨"HornBridge", "grant", "()Z"⟩, 18) := ⟨⟨by decide +kernel, by decide +kernel⟩, List.mem_of_getElem? (i := 24) (by decide +kernel), List.mem_of_getElem? (i := 395) (by decide +kernel), List.mem_of_getElem? (i := 396) (by decide +kernel)⟩
theorem lw_p4 : lw_okq (⟨"HornBridge", "wrongPlace", "(II)I"⟩, 18) := ⟨⟨by decide +kernel, by decide +kernel⟩, List.mem_of_getElem? (i := 24) (by decide +kernel), List.mem_of_getElem? (i := 403) (by decide +kernel), List.mem_of_getElem? (i := 404) (by decide +kernel)⟩
theorem lw_p5 : lw_okq (⟨"HornBridge$Tray", "isMissing", "()Z"⟩, 3) := ⟨⟨by decide +kernel, by decide +kernel⟩, List.mem_of_getElem? (i := 294) (by decide +kernel), List.mem_of_getElem? (i := 407) (by decide +kernel), List.mem_of_getElem? (i := 408) (by decide +kernel)⟩
theorem lw_p6 : lw_okq (⟨"HornBridge$Tray", "hasStretch", "(II)Z"⟩, 3) := ⟨⟨by decide +kernel, by decide +kernel⟩, List.mem_of_getElem? (i := 294) (by decide +kernel), List.mem_of_getElem? (i := 411) (by decide +kernel), List.mem_of_getElem? (i := 412) (by decide +kernel)⟩
theorem lw_p7 : lw_okq (⟨"HornBridge$Tray", "put", "(IJ)V"⟩, 3) := ⟨⟨by decide +kernel, by decide +kernel⟩, List.mem_of_getElem? (i := 294) (by decide +kernel), List.mem_of_getElem? (i := 415) (by decide +kernel), List.mem_of_getElem? (i := 416) (by decide +kernel)⟩
theorem lw_p8 : lw_okq (⟨"HornBridge", "refuse", "(I)I"⟩, 18) := ⟨⟨by decide +kernel, by decide +kernel⟩, List.mem_of_getElem? (i := 24) (by decide +kernel), List.mem_of_getElem? (i := 423) (by decide +kernel), List.mem_of_getElem? (i := 424) (by decide +kernel)⟩
theorem lw_p9 : lw_okq (⟨"HornBridge", "answerLong", "(J)J"⟩, 18) := ⟨⟨by decide +kernel, by decide +kernel⟩, List.mem_of_getElem? (i := 24) (by decide +kernel), List.mem_of_getElem? (i := 427) (by decide +kernel), List.mem_of_getElem? (i := 428) (by decide +kernel)⟩
theorem lw_p10 : lw_okq (⟨"HornBridge", "feedOne", "(I)V"⟩, 18) := ⟨⟨by decide +kernel, by decide +kernel⟩, List.mem_of_getElem? (i := 24) (by decide +kernel), List.mem_of_getElem? (i := 442) (by decide +kernel), List.mem_of_getElem? (i := 443) (by decide +kernel)⟩
theorem lw_p11 : lw_okq (⟨"HornBridge$Tokens", "step", "()V"⟩, 12) := ⟨⟨by decide +kernel, by decide +kernel⟩, List.mem_of_getElem? (i := 452) (by decide +kernel), List.mem_of_getElem? (i := 461) (by decide +kernel), List.mem_of_getElem? (i := 462) (by decide +kernel)⟩
theorem lw_p12 : lw_okq (⟨"HornBridge$Tokens", "stepWord", "()V"⟩, 12) := ⟨⟨by decide +kernel, by decide +kernel⟩, List.mem_of_getElem? (i := 452) (by decide +kernel), List.mem_of_getElem? (i := 465) (by decide +kernel), List.mem_of_getElem? (i := 466) (by decide +kernel)⟩
theorem lw_p13 : lw_okq (⟨"HornBridge$Tokens", "stepNumber", "()V"⟩, 12) := ⟨⟨by decide +kernel, by decide +kernel⟩, List.mem_of_getElem? (i := 452) (by decide +kernel), List.mem_of_getElem? (i := 472) (by decide +kernel), List.mem_of_getElem? (i := 473) (by decide +kernel)⟩
theorem lw_p14 : lw_okq (⟨"HornBridge$RiverReader", "readAll", "()Z"⟩, 8) := ⟨⟨by decide +kernel, by decide +kernel⟩, List.mem_of_getElem? (i := 450) (by decide +kernel), List.mem_of_getElem? (i := 558) (by decide +kernel), List.mem_of_getElem? (i := 559) (by decide +kernel)⟩
theorem lw_p15 : lw_okq (⟨"HornBridge$RiverReader", "readPort", "()Z"⟩, 8) := ⟨⟨by decide +kernel, by decide +kernel⟩, List.mem_of_getElem? (i := 450) (by decide +kernel), List.mem_of_getElem? (i := 564) (by decide +kernel), List.mem_of_getElem? (i := 565) (by decide +kernel)⟩
def lw_privs_1 : List (MethodName × Nat) := [(⟨"HornBridge", "isTray", "(I)Z"⟩, 18), (⟨"HornBridge", "deny", "(I)Z"⟩, 18), (⟨"HornBridge$Tray", "lay", "(II)V"⟩, 3), (⟨"HornBridge", "grant", "()Z"⟩, 18), (⟨"HornBridge", "wrongPlace", "(II)I"⟩, 18), (⟨"HornBridge$Tray", "isMissing", "()Z"⟩, 3), (⟨"HornBridge$Tray", "hasStretch", "(II)Z"⟩, 3), (⟨"HornBridge$Tray", "put", "(IJ)V"⟩, 3), (⟨"HornBridge", "refuse", "(I)I"⟩, 18), (⟨"HornBridge", "answerLong", "(J)J"⟩, 18), (⟨"HornBridge", "feedOne", "(I)V"⟩, 18), (⟨"HornBridge$Tokens", "step", "()V"⟩, 12), (⟨"HornBridge$Tokens", "stepWord", "()V"⟩, 12), (⟨"HornBridge$Tokens", "stepNumber", "()V"⟩, 12), (⟨"HornBridge$RiverReader", "readAll", "()Z"⟩, 8), (⟨"HornBridge$RiverReader", "readPort", "()Z"⟩, 8)]
theorem lw_r1 : ∀ q ∈ lw_privs_1, lw_okq q := List.forall_mem_cons.mpr ⟨lw_p0, List.forall_mem_cons.mpr ⟨lw_p1, List.forall_mem_cons.mpr ⟨lw_p2, List.forall_mem_cons.mpr ⟨lw_p3, List.forall_mem_cons.mpr ⟨lw_p4, List.forall_mem_cons.mpr ⟨lw_p5, List.forall_mem_cons.mpr ⟨lw_p6, List.forall_mem_cons.mpr ⟨lw_p7, List.forall_mem_cons.mpr ⟨lw_p8, List.forall_mem_cons.mpr ⟨lw_p9, List.forall_mem_cons.mpr ⟨lw_p10, List.forall_mem_cons.mpr ⟨lw_p11, List.forall_mem_cons.mpr ⟨lw_p12, List.forall_mem_cons.mpr ⟨lw_p13, List.forall_mem_cons.mpr ⟨lw_p14, List.forall_mem_cons.mpr ⟨lw_p15, fun _ h => absurd h List.not_mem_nil⟩⟩⟩⟩⟩⟩⟩⟩⟩⟩⟩⟩⟩⟩⟩⟩
theorem lw_p16 : lw_okq (⟨"HornBridge$Tokens", "refuseToken", "(I)Z"⟩, 12) := ⟨⟨by decide +kernel, by decide +kernel⟩, List.mem_of_getElem? (i := 452) (by decide +kernel), List.mem_of_getElem? (i := 568) (by decide +kernel), List.mem_of_getElem? (i := 569) (by decide +kernel)⟩
theorem lw_p17 : lw_okq (⟨"HornBridge$RiverReader", "takeNewName", "()Z"⟩, 8) := ⟨⟨by decide +kernel, by decide +kernel⟩, List.mem_of_getElem? (i := 450) (by decide +kernel), List.mem_of_getElem? (i := 573) (by decide +kernel), List.mem_of_getElem? (i := 574) (by decide +kernel)⟩
theorem lw_p18 : lw_okq (⟨"HornBridge$Tokens", "isName", "()Z"⟩, 12) := ⟨⟨by decide +kernel, by decide +kernel⟩, List.mem_of_getElem? (i := 452) (by decide +kernel), List.mem_of_getElem? (i := 577) (by decide +kernel), List.mem_of_getElem? (i := 578) (by decide +kernel)⟩
theorem lw_p19 : lw_okq (⟨"HornBridge$Tokens", "takeKeyword", "(LHornBridge$Keyword;)Z"⟩, 12) := ⟨⟨by decide +kernel, by decide +kernel⟩, List.mem_of_getElem? (i := 452) (by decide +kernel), List.mem_of_getElem? (i := 583) (by decide +kernel), List.mem_of_getElem? (i := 584) (by decide +kernel)⟩
theorem lw_p20 : lw_okq (⟨"HornBridge$Tokens", "isBlasts", "()Z"⟩, 12) := ⟨⟨by decide +kernel, by decide +kernel⟩, List.mem_of_getElem? (i := 452) (by decide +kernel), List.mem_of_getElem? (i := 588) (by decide +kernel), List.mem_of_getElem? (i := 589) (by decide +kernel)⟩
theorem lw_p21 : lw_okq (⟨"HornBridge$RiverReader", "readTurns", "()Z"⟩, 8) := ⟨⟨by decide +kernel, by decide +kernel⟩, List.mem_of_getElem? (i := 450) (by decide +kernel), List.mem_of_getElem? (i := 600) (by decide +kernel), List.mem_of_getElem? (i := 601) (by decide +kernel)⟩
theorem lw_p22 : lw_okq (⟨"HornBridge$Tokens", "takeNumber", "(II)Z"⟩, 12) := ⟨⟨by decide +kernel, by decide +kernel⟩, List.mem_of_getElem? (i := 452) (by decide +kernel), List.mem_of_getElem? (i := 604) (by decide +kernel), List.mem_of_getElem? (i := 605) (by decide +kernel)⟩
theorem lw_p23 : lw_okq (⟨"HornBridge$RiverReader", "readFrost", "()Z"⟩, 8) := ⟨⟨by decide +kernel, by decide +kernel⟩, List.mem_of_getElem? (i := 450) (by decide +kernel), List.mem_of_getElem? (i := 610) (by decide +kernel), List.mem_of_getElem? (i := 611) (by decide +kernel)⟩
theorem lw_p24 : lw_okq (⟨"HornBridge$RiverReader", "readEcho", "()Z"⟩, 8) := ⟨⟨by decide +kernel, by decide +kernel⟩, List.mem_of_getElem? (i := 450) (by decide +kernel), List.mem_of_getElem? (i := 618) (by decide +kernel), List.mem_of_getElem? (i := 619) (by decide +kernel)⟩
theorem lw_p25 : lw_okq (⟨"HornBridge$RiverReader", "readShip", "()Z"⟩, 8) := ⟨⟨by decide +kernel, by decide +kernel⟩, List.mem_of_getElem? (i := 450) (by decide +kernel), List.mem_of_getElem? (i := 624) (by decide +kernel), List.mem_of_getElem? (i := 625) (by decide +kernel)⟩
theorem lw_p26 : lw_okq (⟨"HornBridge$RiverReader", "portNamed", "(J)I"⟩, 8) := ⟨⟨by decide +kernel, by decide +kernel⟩, List.mem_of_getElem? (i := 450) (by decide +kernel), List.mem_of_getElem? (i := 630) (by decide +kernel), List.mem_of_getElem? (i := 631) (by decide +kernel)⟩
theorem lw_p27 : lw_okq (⟨"HornBridge$RiverReader", "readComing", "(LHornBridge$Lane;)Z"⟩, 8) := ⟨⟨by decide +kernel, by decide +kernel⟩, List.mem_of_getElem? (i := 450) (by decide +kernel), List.mem_of_getElem? (i := 634) (by decide +kernel), List.mem_of_getElem? (i := 635) (by decide +kernel)⟩
theorem lw_p28 : lw_okq (⟨"HornBridge$Lane", "put", "(IIIIIZ)V"⟩, 6) := ⟨⟨by decide +kernel, by decide +kernel⟩, List.mem_of_getElem? (i := 40) (by decide +kernel), List.mem_of_getElem? (i := 644) (by decide +kernel), List.mem_of_getElem? (i := 645) (by decide +kernel)⟩
theorem lw_p29 : lw_okq (⟨"HornBridge$RiverReader", "readCart", "()Z"⟩, 8) := ⟨⟨by decide +kernel, by decide +kernel⟩, List.mem_of_getElem? (i := 450) (by decide +kernel), List.mem_of_getElem? (i := 652) (by decide +kernel), List.mem_of_getElem? (i := 653) (by decide +kernel)⟩
theorem lw_p30 : lw_okq (⟨"HornBridge$Tokens", "takeSign", "(C)Z"⟩, 12) := ⟨⟨by decide +kernel, by decide +kernel⟩, List.mem_of_getElem? (i := 452) (by decide +kernel), List.mem_of_getElem? (i := 656) (by decide +kernel), List.mem_of_getElem? (i := 657) (by decide +kernel)⟩
theorem lw_p31 : lw_okq (⟨"HornBridge$Tokens", "isSignOf", "(C)Z"⟩, 12) := ⟨⟨by decide +kernel, by decide +kernel⟩, List.mem_of_getElem? (i := 452) (by decide +kernel), List.mem_of_getElem? (i := 660) (by decide +kernel), List.mem_of_getElem? (i := 661) (by decide +kernel)⟩
def lw_privs_2 : List (MethodName × Nat) := [(⟨"HornBridge$Tokens", "refuseToken", "(I)Z"⟩, 12), (⟨"HornBridge$RiverReader", "takeNewName", "()Z"⟩, 8), (⟨"HornBridge$Tokens", "isName", "()Z"⟩, 12), (⟨"HornBridge$Tokens", "takeKeyword", "(LHornBridge$Keyword;)Z"⟩, 12), (⟨"HornBridge$Tokens", "isBlasts", "()Z"⟩, 12), (⟨"HornBridge$RiverReader", "readTurns", "()Z"⟩, 8), (⟨"HornBridge$Tokens", "takeNumber", "(II)Z"⟩, 12), (⟨"HornBridge$RiverReader", "readFrost", "()Z"⟩, 8), (⟨"HornBridge$RiverReader", "readEcho", "()Z"⟩, 8), (⟨"HornBridge$RiverReader", "readShip", "()Z"⟩, 8), (⟨"HornBridge$RiverReader", "portNamed", "(J)I"⟩, 8), (⟨"HornBridge$RiverReader", "readComing", "(LHornBridge$Lane;)Z"⟩, 8), (⟨"HornBridge$Lane", "put", "(IIIIIZ)V"⟩, 6), (⟨"HornBridge$RiverReader", "readCart", "()Z"⟩, 8), (⟨"HornBridge$Tokens", "takeSign", "(C)Z"⟩, 12), (⟨"HornBridge$Tokens", "isSignOf", "(C)Z"⟩, 12)]
theorem lw_r2 : ∀ q ∈ lw_privs_2, lw_okq q := List.forall_mem_cons.mpr ⟨lw_p16, List.forall_mem_cons.mpr ⟨lw_p17, List.forall_mem_cons.mpr ⟨lw_p18, List.forall_mem_cons.mpr ⟨lw_p19, List.forall_mem_cons.mpr ⟨lw_p20, List.forall_mem_cons.mpr ⟨lw_p21, List.forall_mem_cons.mpr ⟨lw_p22, List.forall_mem_cons.mpr ⟨lw_p23, List.forall_mem_cons.mpr ⟨lw_p24, List.forall_mem_cons.mpr ⟨lw_p25, List.forall_mem_cons.mpr ⟨lw_p26, List.forall_mem_cons.mpr ⟨lw_p27, List.forall_mem_cons.mpr ⟨lw_p28, List.forall_mem_cons.mpr ⟨lw_p29, List.forall_mem_cons.mpr ⟨lw_p30, List.forall_mem_cons.mpr ⟨lw_p31, fun _ h => absurd h List.not_mem_nil⟩⟩⟩⟩⟩⟩⟩⟩⟩⟩⟩⟩⟩⟩⟩⟩
theorem lw_p32 : lw_okq (⟨"HornBridge", "endText", "(LHornBridge$Tokens;)V"⟩, 18) := ⟨⟨by decide +kernel, by decide +kernel⟩, List.mem_of_getElem? (i := 24) (by decide +kernel), List.mem_of_getElem? (i := 664) (by decide +kernel), List.mem_of_getElem? (i := 665) (by decide +kernel)⟩
theorem lw_p33 : lw_okq (⟨"HornBridge", "answer", "(I)I"⟩, 18) := ⟨⟨by decide +kernel, by decide +kernel⟩, List.mem_of_getElem? (i := 24) (by decide +kernel), List.mem_of_getElem? (i := 668) (by decide +kernel), List.mem_of_getElem? (i := 669) (by decide +kernel)⟩
theorem lw_p34 : lw_okq (⟨"HornBridge$RulesReader", "readAll", "()Z"⟩, 3) := ⟨⟨by decide +kernel, by decide +kernel⟩, List.mem_of_getElem? (i := 676) (by decide +kernel), List.mem_of_getElem? (i := 726) (by decide +kernel), List.mem_of_getElem? (i := 727) (by decide +kernel)⟩
theorem lw_p35 : lw_okq (⟨"HornBridge$RulesReader", "readRule", "()Z"⟩, 3) := ⟨⟨by decide +kernel, by decide +kernel⟩, List.mem_of_getElem? (i := 676) (by decide +kernel), List.mem_of_getElem? (i := 730) (by decide +kernel), List.mem_of_getElem? (i := 731) (by decide +kernel)⟩
theorem lw_p36 : lw_okq (⟨"HornBridge$RulesReader", "readEither", "(I)Z"⟩, 3) := ⟨⟨by decide +kernel, by decide +kernel⟩, List.mem_of_getElem? (i := 676) (by decide +kernel), List.mem_of_getElem? (i := 738) (by decide +kernel), List.mem_of_getElem? (i := 739) (by decide +kernel)⟩
theorem lw_p37 : lw_okq (⟨"HornBridge$RulesReader", "readBoth", "(I)Z"⟩, 3) := ⟨⟨by decide +kernel, by decide +kernel⟩, List.mem_of_getElem? (i := 676) (by decide +kernel), List.mem_of_getElem? (i := 742) (by decide +kernel), List.mem_of_getElem? (i := 743) (by decide +kernel)⟩
theorem lw_p38 : lw_okq (⟨"HornBridge$RulesReader", "readOne", "(I)Z"⟩, 3) := ⟨⟨by decide +kernel, by decide +kernel⟩, List.mem_of_getElem? (i := 676) (by decide +kernel), List.mem_of_getElem? (i := 746) (by decide +kernel), List.mem_of_getElem? (i := 747) (by decide +kernel)⟩
theorem lw_p39 : lw_okq (⟨"HornBridge$RulesReader", "factTold", "()I"⟩, 3) := ⟨⟨by decide +kernel, by decide +kernel⟩, List.mem_of_getElem? (i := 676) (by decide +kernel), List.mem_of_getElem? (i := 753) (by decide +kernel), List.mem_of_getElem? (i := 754) (by decide +kernel)⟩
theorem lw_p40 : lw_okq (⟨"HornBridge$RulesReader", "readNested", "(I)Z"⟩, 3) := ⟨⟨by decide +kernel, by decide +kernel⟩, List.mem_of_getElem? (i := 676) (by decide +kernel), List.mem_of_getElem? (i := 771) (by decide +kernel), List.mem_of_getElem? (i := 772) (by decide +kernel)⟩
theorem lw_p41 : lw_okq (⟨"HornBridge$Rules", "addStep", "(III)V"⟩, 7) := ⟨⟨by decide +kernel, by decide +kernel⟩, List.mem_of_getElem? (i := 677) (by decide +kernel), List.mem_of_getElem? (i := 777) (by decide +kernel), List.mem_of_getElem? (i := 778) (by decide +kernel)⟩
theorem lw_p42 : lw_okq (⟨"HornBridge$RulesReader", "readCase", "(I)Z"⟩, 3) := ⟨⟨by decide +kernel, by decide +kernel⟩, List.mem_of_getElem? (i := 676) (by decide +kernel), List.mem_of_getElem? (i := 781) (by decide +kernel), List.mem_of_getElem? (i := 782) (by decide +kernel)⟩
theorem lw_p43 : lw_okq (⟨"HornBridge$RulesReader", "comparesTold", "()I"⟩, 3) := ⟨⟨by decide +kernel, by decide +kernel⟩, List.mem_of_getElem? (i := 676) (by decide +kernel), List.mem_of_getElem? (i := 785) (by decide +kernel), List.mem_of_getElem? (i := 786) (by decide +kernel)⟩
theorem lw_p44 : lw_okq (⟨"HornBridge$RulesReader", "actTold", "()I"⟩, 3) := ⟨⟨by decide +kernel, by decide +kernel⟩, List.mem_of_getElem? (i := 676) (by decide +kernel), List.mem_of_getElem? (i := 796) (by decide +kernel), List.mem_of_getElem? (i := 797) (by decide +kernel)⟩
theorem lw_p45 : lw_okq (⟨"HornBridge$Rules", "endRule", "(I)V"⟩, 7) := ⟨⟨by decide +kernel, by decide +kernel⟩, List.mem_of_getElem? (i := 677) (by decide +kernel), List.mem_of_getElem? (i := 802) (by decide +kernel), List.mem_of_getElem? (i := 803) (by decide +kernel)⟩
theorem lw_p46 : lw_okq (⟨"HornBridge", "isShip", "(I)Z"⟩, 18) := ⟨⟨by decide +kernel, by decide +kernel⟩, List.mem_of_getElem? (i := 24) (by decide +kernel), List.mem_of_getElem? (i := 818) (by decide +kernel), List.mem_of_getElem? (i := 819) (by decide +kernel)⟩
theorem lw_p47 : lw_okq (⟨"HornBridge", "isCart", "(I)Z"⟩, 18) := ⟨⟨by decide +kernel, by decide +kernel⟩, List.mem_of_getElem? (i := 24) (by decide +kernel), List.mem_of_getElem? (i := 826) (by decide +kernel), List.mem_of_getElem? (i := 827) (by decide +kernel)⟩
def lw_privs_3 : List (MethodName × Nat) := [(⟨"HornBridge", "endText", "(LHornBridge$Tokens;)V"⟩, 18), (⟨"HornBridge", "answer", "(I)I"⟩, 18), (⟨"HornBridge$RulesReader", "readAll", "()Z"⟩, 3), (⟨"HornBridge$RulesReader", "readRule", "()Z"⟩, 3), (⟨"HornBridge$RulesReader", "readEither", "(I)Z"⟩, 3), (⟨"HornBridge$RulesReader", "readBoth", "(I)Z"⟩, 3), (⟨"HornBridge$RulesReader", "readOne", "(I)Z"⟩, 3), (⟨"HornBridge$RulesReader", "factTold", "()I"⟩, 3), (⟨"HornBridge$RulesReader", "readNested", "(I)Z"⟩, 3), (⟨"HornBridge$Rules", "addStep", "(III)V"⟩, 7), (⟨"HornBridge$RulesReader", "readCase", "(I)Z"⟩, 3), (⟨"HornBridge$RulesReader", "comparesTold", "()I"⟩, 3), (⟨"HornBridge$RulesReader", "actTold", "()I"⟩, 3), (⟨"HornBridge$Rules", "endRule", "(I)V"⟩, 7), (⟨"HornBridge", "isShip", "(I)Z"⟩, 18), (⟨"HornBridge", "isCart", "(I)Z"⟩, 18)]
theorem lw_r3 : ∀ q ∈ lw_privs_3, lw_okq q := List.forall_mem_cons.mpr ⟨lw_p32, List.forall_mem_cons.mpr ⟨lw_p33, List.forall_mem_cons.mpr ⟨lw_p34, List.forall_mem_cons.mpr ⟨lw_p35, List.forall_mem_cons.mpr ⟨lw_p36, List.forall_mem_cons.mpr ⟨lw_p37, List.forall_mem_cons.mpr ⟨lw_p38, List.forall_mem_cons.mpr ⟨lw_p39, List.forall_mem_cons.mpr ⟨lw_p40, List.forall_mem_cons.mpr ⟨lw_p41, List.forall_mem_cons.mpr ⟨lw_p42, List.forall_mem_cons.mpr ⟨lw_p43, List.forall_mem_cons.mpr ⟨lw_p44, List.forall_mem_cons.mpr ⟨lw_p45, List.forall_mem_cons.mpr ⟨lw_p46, List.forall_mem_cons.mpr ⟨lw_p47, fun _ h => absurd h List.not_mem_nil⟩⟩⟩⟩⟩⟩⟩⟩⟩⟩⟩⟩⟩⟩⟩⟩
theorem lw_p48 : lw_okq (⟨"HornBridge$Crossing", "takeShips", "(LHornBridge$River;III)V"⟩, 12) := ⟨⟨by decide +kernel, by decide +kernel⟩, List.mem_of_getElem? (i := 180) (by decide +kernel), List.mem_of_getElem? (i := 834) (by decide +kernel), List.mem_of_getElem? (i := 835) (by decide +kernel)⟩
theorem lw_p49 : lw_okq (⟨"HornBridge$Lane", "clear", "()V"⟩, 6) := ⟨⟨by decide +kernel, by decide +kernel⟩, List.mem_of_getElem? (i := 40) (by decide +kernel), List.mem_of_getElem? (i := 838) (by decide +kernel), List.mem_of_getElem? (i := 839) (by decide +kernel)⟩
theorem lw_p50 : lw_okq (⟨"HornBridge$Lane", "join", "(LHornBridge$Lane;II)V"⟩, 6) := ⟨⟨by decide +kernel, by decide +kernel⟩, List.mem_of_getElem? (i := 40) (by decide +kernel), List.mem_of_getElem? (i := 842) (by decide +kernel), List.mem_of_getElem? (i := 843) (by decide +kernel)⟩
theorem lw_p51 : lw_okq (⟨"HornBridge$Crossing", "takeCarts", "(LHornBridge$River;I)V"⟩, 12) := ⟨⟨by decide +kernel, by decide +kernel⟩, List.mem_of_getElem? (i := 180) (by decide +kernel), List.mem_of_getElem? (i := 851) (by decide +kernel), List.mem_of_getElem? (i := 852) (by decide +kernel)⟩
theorem lw_p52 : lw_okq (⟨"HornBridge", "isPort", "(I)Z"⟩, 18) := ⟨⟨by decide +kernel, by decide +kernel⟩, List.mem_of_getElem? (i := 24) (by decide +kernel), List.mem_of_getElem? (i := 859) (by decide +kernel), List.mem_of_getElem? (i := 860) (by decide +kernel)⟩
theorem lw_p53 : lw_okq (⟨"HornBridge$River", "heardOf", "(I)J"⟩, 10) := ⟨⟨by decide +kernel, by decide +kernel⟩, List.mem_of_getElem? (i := 34) (by decide +kernel), List.mem_of_getElem? (i := 867) (by decide +kernel), List.mem_of_getElem? (i := 868) (by decide +kernel)⟩
theorem lw_p54 : lw_okq (⟨"HornBridge$River", "bothHeard", "(III)J"⟩, 10) := ⟨⟨by decide +kernel, by decide +kernel⟩, List.mem_of_getElem? (i := 34) (by decide +kernel), List.mem_of_getElem? (i := 878) (by decide +kernel), List.mem_of_getElem? (i := 879) (by decide +kernel)⟩
theorem lw_p55 : lw_okq (⟨"HornBridge", "addReading", "(III)V"⟩, 18) := ⟨⟨by decide +kernel, by decide +kernel⟩, List.mem_of_getElem? (i := 24) (by decide +kernel), List.mem_of_getElem? (i := 908) (by decide +kernel), List.mem_of_getElem? (i := 909) (by decide +kernel)⟩
theorem lw_p56 : lw_okq (⟨"HornBridge$River", "leastBeats", "(II)I"⟩, 10) := ⟨⟨by decide +kernel, by decide +kernel⟩, List.mem_of_getElem? (i := 34) (by decide +kernel), List.mem_of_getElem? (i := 912) (by decide +kernel), List.mem_of_getElem? (i := 913) (by decide +kernel)⟩
theorem lw_p57 : lw_okq (⟨"HornBridge$River", "countReadings", "(JI)I"⟩, 10) := ⟨⟨by decide +kernel, by decide +kernel⟩, List.mem_of_getElem? (i := 34) (by decide +kernel), List.mem_of_getElem? (i := 924) (by decide +kernel), List.mem_of_getElem? (i := 925) (by decide +kernel)⟩
theorem lw_p58 : lw_okq (⟨"HornBridge$River", "countBeats", "(JII)I"⟩, 10) := ⟨⟨by decide +kernel, by decide +kernel⟩, List.mem_of_getElem? (i := 34) (by decide +kernel), List.mem_of_getElem? (i := 928) (by decide +kernel), List.mem_of_getElem? (i := 929) (by decide +kernel)⟩
theorem lw_p59 : lw_okq (⟨"HornBridge", "tellFraction", "(II)V"⟩, 18) := ⟨⟨by decide +kernel, by decide +kernel⟩, List.mem_of_getElem? (i := 24) (by decide +kernel), List.mem_of_getElem? (i := 934) (by decide +kernel), List.mem_of_getElem? (i := 935) (by decide +kernel)⟩
theorem lw_p60 : lw_okq (⟨"HornBridge$River", "couplesAlike", "(I)I"⟩, 10) := ⟨⟨by decide +kernel, by decide +kernel⟩, List.mem_of_getElem? (i := 34) (by decide +kernel), List.mem_of_getElem? (i := 945) (by decide +kernel), List.mem_of_getElem? (i := 946) (by decide +kernel)⟩
theorem lw_p61 : lw_okq (⟨"HornBridge$CodeSearch", "find", "(III)Z"⟩, 7) := ⟨⟨by decide +kernel, by decide +kernel⟩, List.mem_of_getElem? (i := 147) (by decide +kernel), List.mem_of_getElem? (i := 953) (by decide +kernel), List.mem_of_getElem? (i := 954) (by decide +kernel)⟩
theorem lw_p62 : lw_okq (⟨"HornBridge$CodeSearch", "extend", "(IIII)Z"⟩, 7) := ⟨⟨by decide +kernel, by decide +kernel⟩, List.mem_of_getElem? (i := 147) (by decide +kernel), List.mem_of_getElem? (i := 959) (by decide +kernel), List.mem_of_getElem? (i := 960) (by decide +kernel)⟩
theorem lw_p63 : lw_okq (⟨"HornBridge$CodeSearch", "fitsLast", "(I)Z"⟩, 7) := ⟨⟨by decide +kernel, by decide +kernel⟩, List.mem_of_getElem? (i := 147) (by decide +kernel), List.mem_of_getElem? (i := 963) (by decide +kernel), List.mem_of_getElem? (i := 964) (by decide +kernel)⟩
def lw_privs_4 : List (MethodName × Nat) := [(⟨"HornBridge$Crossing", "takeShips", "(LHornBridge$River;III)V"⟩, 12), (⟨"HornBridge$Lane", "clear", "()V"⟩, 6), (⟨"HornBridge$Lane", "join", "(LHornBridge$Lane;II)V"⟩, 6), (⟨"HornBridge$Crossing", "takeCarts", "(LHornBridge$River;I)V"⟩, 12), (⟨"HornBridge", "isPort", "(I)Z"⟩, 18), (⟨"HornBridge$River", "heardOf", "(I)J"⟩, 10), (⟨"HornBridge$River", "bothHeard", "(III)J"⟩, 10), (⟨"HornBridge", "addReading", "(III)V"⟩, 18), (⟨"HornBridge$River", "leastBeats", "(II)I"⟩, 10), (⟨"HornBridge$River", "countReadings", "(JI)I"⟩, 10), (⟨"HornBridge$River", "countBeats", "(JII)I"⟩, 10), (⟨"HornBridge", "tellFraction", "(II)V"⟩, 18), (⟨"HornBridge$River", "couplesAlike", "(I)I"⟩, 10), (⟨"HornBridge$CodeSearch", "find", "(III)Z"⟩, 7), (⟨"HornBridge$CodeSearch", "extend", "(IIII)Z"⟩, 7), (⟨"HornBridge$CodeSearch", "fitsLast", "(I)Z"⟩, 7)]
theorem lw_r4 : ∀ q ∈ lw_privs_4, lw_okq q := List.forall_mem_cons.mpr ⟨lw_p48, List.forall_mem_cons.mpr ⟨lw_p49, List.forall_mem_cons.mpr ⟨lw_p50, List.forall_mem_cons.mpr ⟨lw_p51, List.forall_mem_cons.mpr ⟨lw_p52, List.forall_mem_cons.mpr ⟨lw_p53, List.forall_mem_cons.mpr ⟨lw_p54, List.forall_mem_cons.mpr ⟨lw_p55, List.forall_mem_cons.mpr ⟨lw_p56, List.forall_mem_cons.mpr ⟨lw_p57, List.forall_mem_cons.mpr ⟨lw_p58, List.forall_mem_cons.mpr ⟨lw_p59, List.forall_mem_cons.mpr ⟨lw_p60, List.forall_mem_cons.mpr ⟨lw_p61, List.forall_mem_cons.mpr ⟨lw_p62, List.forall_mem_cons.mpr ⟨lw_p63, fun _ h => absurd h List.not_mem_nil⟩⟩⟩⟩⟩⟩⟩⟩⟩⟩⟩⟩⟩⟩⟩⟩
theorem lw_p64 : lw_okq (⟨"HornBridge$CodeSearch", "heardInRow", "(I)J"⟩, 7) := ⟨⟨by decide +kernel, by decide +kernel⟩, List.mem_of_getElem? (i := 147) (by decide +kernel), List.mem_of_getElem? (i := 967) (by decide +kernel), List.mem_of_getElem? (i := 968) (by decide +kernel)⟩
theorem lw_p65 : lw_okq (⟨"HornBridge$CodeSearch", "blastsTold", "()I"⟩, 7) := ⟨⟨by decide +kernel, by decide +kernel⟩, List.mem_of_getElem? (i := 147) (by decide +kernel), List.mem_of_getElem? (i := 972) (by decide +kernel), List.mem_of_getElem? (i := 973) (by decide +kernel)⟩
theorem lw_p66 : lw_okq (⟨"HornBridge$CodeSearch", "callTold", "(I)J"⟩, 7) := ⟨⟨by decide +kernel, by decide +kernel⟩, List.mem_of_getElem? (i := 147) (by decide +kernel), List.mem_of_getElem? (i := 980) (by decide +kernel), List.mem_of_getElem? (i := 981) (by decide +kernel)⟩
theorem lw_p67 : lw_okq (⟨"HornBridge", "leastAsTold", "()I"⟩, 18) := ⟨⟨by decide +kernel, by decide +kernel⟩, List.mem_of_getElem? (i := 24) (by decide +kernel), List.mem_of_getElem? (i := 1012) (by decide +kernel), List.mem_of_getElem? (i := 1013) (by decide +kernel)⟩
theorem lw_p68 : lw_okq (⟨"HornBridge$Crossing", "takeAll", "(LHornBridge$River;)V"⟩, 12) := ⟨⟨by decide +kernel, by decide +kernel⟩, List.mem_of_getElem? (i := 180) (by decide +kernel), List.mem_of_getElem? (i := 1016) (by decide +kernel), List.mem_of_getElem? (i := 1017) (by decide +kernel)⟩
theorem lw_p69 : lw_okq (⟨"HornBridge$Crossing", "leastWaits", "()I"⟩, 12) := ⟨⟨by decide +kernel, by decide +kernel⟩, List.mem_of_getElem? (i := 180) (by decide +kernel), List.mem_of_getElem? (i := 1022) (by decide +kernel), List.mem_of_getElem? (i := 1023) (by decide +kernel)⟩
theorem lw_p70 : lw_okq (⟨"HornBridge$Crossing", "search", "(IZIII)V"⟩, 12) := ⟨⟨by decide +kernel, by decide +kernel⟩, List.mem_of_getElem? (i := 180) (by decide +kernel), List.mem_of_getElem? (i := 1026) (by decide +kernel), List.mem_of_getElem? (i := 1027) (by decide +kernel)⟩
theorem lw_p71 : lw_okq (⟨"HornBridge$Crossing", "turnEnd", "(I)I"⟩, 12) := ⟨⟨by decide +kernel, by decide +kernel⟩, List.mem_of_getElem? (i := 180) (by decide +kernel), List.mem_of_getElem? (i := 1030) (by decide +kernel), List.mem_of_getElem? (i := 1031) (by decide +kernel)⟩
theorem lw_p72 : lw_okq (⟨"HornBridge$River", "turnLength", "(II)I"⟩, 10) := ⟨⟨by decide +kernel, by decide +kernel⟩, List.mem_of_getElem? (i := 34) (by decide +kernel), List.mem_of_getElem? (i := 1034) (by decide +kernel), List.mem_of_getElem? (i := 1035) (by decide +kernel)⟩
theorem lw_p73 : lw_okq (⟨"HornBridge", "answerWaits", "(I)I"⟩, 18) := ⟨⟨by decide +kernel, by decide +kernel⟩, List.mem_of_getElem? (i := 24) (by decide +kernel), List.mem_of_getElem? (i := 1045) (by decide +kernel), List.mem_of_getElem? (i := 1046) (by decide +kernel)⟩
theorem lw_p74 : lw_okq (⟨"HornBridge$Crossing", "layPlan", "()Z"⟩, 12) := ⟨⟨by decide +kernel, by decide +kernel⟩, List.mem_of_getElem? (i := 180) (by decide +kernel), List.mem_of_getElem? (i := 1054) (by decide +kernel), List.mem_of_getElem? (i := 1055) (by decide +kernel)⟩
theorem lw_p75 : lw_okq (⟨"HornBridge$Crossing", "shipMayBegin", "(IIII)Z"⟩, 12) := ⟨⟨by decide +kernel, by decide +kernel⟩, List.mem_of_getElem? (i := 180) (by decide +kernel), List.mem_of_getElem? (i := 1059) (by decide +kernel), List.mem_of_getElem? (i := 1060) (by decide +kernel)⟩
theorem lw_p76 : lw_okq (⟨"HornBridge$Crossing", "canEndWithin", "(IZIII)Z"⟩, 12) := ⟨⟨by decide +kernel, by decide +kernel⟩, List.mem_of_getElem? (i := 180) (by decide +kernel), List.mem_of_getElem? (i := 1063) (by decide +kernel), List.mem_of_getElem? (i := 1064) (by decide +kernel)⟩
theorem lw_p77 : lw_okq (⟨"HornBridge$Crossing", "addAct", "(III)V"⟩, 12) := ⟨⟨by decide +kernel, by decide +kernel⟩, List.mem_of_getElem? (i := 180) (by decide +kernel), List.mem_of_getElem? (i := 1067) (by decide +kernel), List.mem_of_getElem? (i := 1068) (by decide +kernel)⟩
theorem lw_p78 : lw_okq (⟨"HornBridge$Crossing", "cartMayBegin", "(IIII)Z"⟩, 12) := ⟨⟨by decide +kernel, by decide +kernel⟩, List.mem_of_getElem? (i := 180) (by decide +kernel), List.mem_of_getElem? (i := 1071) (by decide +kernel), List.mem_of_getElem? (i := 1072) (by decide +kernel)⟩
theorem lw_p79 : lw_okq (⟨"HornBridge$Crossing", "tellPlan", "()V"⟩, 12) := ⟨⟨by decide +kernel, by decide +kernel⟩, List.mem_of_getElem? (i := 180) (by decide +kernel), List.mem_of_getElem? (i := 1075) (by decide +kernel), List.mem_of_getElem? (i := 1076) (by decide +kernel)⟩
def lw_privs_5 : List (MethodName × Nat) := [(⟨"HornBridge$CodeSearch", "heardInRow", "(I)J"⟩, 7), (⟨"HornBridge$CodeSearch", "blastsTold", "()I"⟩, 7), (⟨"HornBridge$CodeSearch", "callTold", "(I)J"⟩, 7), (⟨"HornBridge", "leastAsTold", "()I"⟩, 18), (⟨"HornBridge$Crossing", "takeAll", "(LHornBridge$River;)V"⟩, 12), (⟨"HornBridge$Crossing", "leastWaits", "()I"⟩, 12), (⟨"HornBridge$Crossing", "search", "(IZIII)V"⟩, 12), (⟨"HornBridge$Crossing", "turnEnd", "(I)I"⟩, 12), (⟨"HornBridge$River", "turnLength", "(II)I"⟩, 10), (⟨"HornBridge", "answerWaits", "(I)I"⟩, 18), (⟨"HornBridge$Crossing", "layPlan", "()Z"⟩, 12), (⟨"HornBridge$Crossing", "shipMayBegin", "(IIII)Z"⟩, 12), (⟨"HornBridge$Crossing", "canEndWithin", "(IZIII)Z"⟩, 12), (⟨"HornBridge$Crossing", "addAct", "(III)V"⟩, 12), (⟨"HornBridge$Crossing", "cartMayBegin", "(IIII)Z"⟩, 12), (⟨"HornBridge$Crossing", "tellPlan", "()V"⟩, 12)]
theorem lw_r5 : ∀ q ∈ lw_privs_5, lw_okq q := List.forall_mem_cons.mpr ⟨lw_p64, List.forall_mem_cons.mpr ⟨lw_p65, List.forall_mem_cons.mpr ⟨lw_p66, List.forall_mem_cons.mpr ⟨lw_p67, List.forall_mem_cons.mpr ⟨lw_p68, List.forall_mem_cons.mpr ⟨lw_p69, List.forall_mem_cons.mpr ⟨lw_p70, List.forall_mem_cons.mpr ⟨lw_p71, List.forall_mem_cons.mpr ⟨lw_p72, List.forall_mem_cons.mpr ⟨lw_p73, List.forall_mem_cons.mpr ⟨lw_p74, List.forall_mem_cons.mpr ⟨lw_p75, List.forall_mem_cons.mpr ⟨lw_p76, List.forall_mem_cons.mpr ⟨lw_p77, List.forall_mem_cons.mpr ⟨lw_p78, List.forall_mem_cons.mpr ⟨lw_p79, fun _ h => absurd h List.not_mem_nil⟩⟩⟩⟩⟩⟩⟩⟩⟩⟩⟩⟩⟩⟩⟩⟩
theorem lw_p80 : lw_okq (⟨"HornBridge$Crossing", "allCanPass", "()Z"⟩, 12) := ⟨⟨by decide +kernel, by decide +kernel⟩, List.mem_of_getElem? (i := 180) (by decide +kernel), List.mem_of_getElem? (i := 1102) (by decide +kernel), List.mem_of_getElem? (i := 1103) (by decide +kernel)⟩
theorem lw_p81 : lw_okq (⟨"HornBridge$Crossing", "canPassWithin", "(I)Z"⟩, 12) := ⟨⟨by decide +kernel, by decide +kernel⟩, List.mem_of_getElem? (i := 180) (by decide +kernel), List.mem_of_getElem? (i := 1115) (by decide +kernel), List.mem_of_getElem? (i := 1116) (by decide +kernel)⟩
theorem lw_p82 : lw_okq (⟨"HornBridge$Crossing", "dearestByPlan", "(LHornBridge$River;)I"⟩, 12) := ⟨⟨by decide +kernel, by decide +kernel⟩, List.mem_of_getElem? (i := 180) (by decide +kernel), List.mem_of_getElem? (i := 1127) (by decide +kernel), List.mem_of_getElem? (i := 1128) (by decide +kernel)⟩
theorem lw_p83 : lw_okq (⟨"HornBridge$Crossing", "openedByPlan", "()I"⟩, 12) := ⟨⟨by decide +kernel, by decide +kernel⟩, List.mem_of_getElem? (i := 180) (by decide +kernel), List.mem_of_getElem? (i := 1138) (by decide +kernel), List.mem_of_getElem? (i := 1139) (by decide +kernel)⟩
theorem lw_p84 : lw_okq (⟨"HornBridge$Crossing", "busiestByPlan", "()I"⟩, 12) := ⟨⟨by decide +kernel, by decide +kernel⟩, List.mem_of_getElem? (i := 180) (by decide +kernel), List.mem_of_getElem? (i := 1146) (by decide +kernel), List.mem_of_getElem? (i := 1147) (by decide +kernel)⟩
theorem lw_p85 : lw_okq (⟨"HornBridge$Keeper", "spendDay", "(LHornBridge$River;LHornBridge$Rules;I)V"⟩, 17) := ⟨⟨by decide +kernel, by decide +kernel⟩, List.mem_of_getElem? (i := 231) (by decide +kernel), List.mem_of_getElem? (i := 1157) (by decide +kernel), List.mem_of_getElem? (i := 1158) (by decide +kernel)⟩
theorem lw_p86 : lw_okq (⟨"HornBridge$Keeper", "comeLater", "(LHornBridge$River;I)V"⟩, 17) := ⟨⟨by decide +kernel, by decide +kernel⟩, List.mem_of_getElem? (i := 231) (by decide +kernel), List.mem_of_getElem? (i := 1161) (by decide +kernel), List.mem_of_getElem? (i := 1162) (by decide +kernel)⟩
theorem lw_p87 : lw_okq (⟨"HornBridge$Keeper", "delay", "(I)I"⟩, 17) := ⟨⟨by decide +kernel, by decide +kernel⟩, List.mem_of_getElem? (i := 231) (by decide +kernel), List.mem_of_getElem? (i := 1166) (by decide +kernel), List.mem_of_getElem? (i := 1167) (by decide +kernel)⟩
theorem lw_p88 : lw_okq (⟨"HornBridge$Keeper", "endWhatIsOver", "()V"⟩, 17) := ⟨⟨by decide +kernel, by decide +kernel⟩, List.mem_of_getElem? (i := 231) (by decide +kernel), List.mem_of_getElem? (i := 1172) (by decide +kernel), List.mem_of_getElem? (i := 1173) (by decide +kernel)⟩
theorem lw_p89 : lw_okq (⟨"HornBridge$Keeper", "left", "()I"⟩, 17) := ⟨⟨by decide +kernel, by decide +kernel⟩, List.mem_of_getElem? (i := 231) (by decide +kernel), List.mem_of_getElem? (i := 1176) (by decide +kernel), List.mem_of_getElem? (i := 1177) (by decide +kernel)⟩
theorem lw_p90 : lw_okq (⟨"HornBridge$Keeper", "strikeSails", "()V"⟩, 17) := ⟨⟨by decide +kernel, by decide +kernel⟩, List.mem_of_getElem? (i := 231) (by decide +kernel), List.mem_of_getElem? (i := 1180) (by decide +kernel), List.mem_of_getElem? (i := 1181) (by decide +kernel)⟩
theorem lw_p91 : lw_okq (⟨"HornBridge$Keeper", "firstShipLeft", "()I"⟩, 17) := ⟨⟨by decide +kernel, by decide +kernel⟩, List.mem_of_getElem? (i := 231) (by decide +kernel), List.mem_of_getElem? (i := 1184) (by decide +kernel), List.mem_of_getElem? (i := 1185) (by decide +kernel)⟩
theorem lw_p92 : lw_okq (⟨"HornBridge$Keeper", "strikeIfDue", "(I)V"⟩, 17) := ⟨⟨by decide +kernel, by decide +kernel⟩, List.mem_of_getElem? (i := 231) (by decide +kernel), List.mem_of_getElem? (i := 1188) (by decide +kernel), List.mem_of_getElem? (i := 1189) (by decide +kernel)⟩
theorem lw_p93 : lw_okq (⟨"HornBridge$Keeper", "obey", "(LHornBridge$River;LHornBridge$Rules;)V"⟩, 17) := ⟨⟨by decide +kernel, by decide +kernel⟩, List.mem_of_getElem? (i := 231) (by decide +kernel), List.mem_of_getElem? (i := 1192) (by decide +kernel), List.mem_of_getElem? (i := 1193) (by decide +kernel)⟩
theorem lw_p94 : lw_okq (⟨"HornBridge$Keeper", "gatherFacts", "()V"⟩, 17) := ⟨⟨by decide +kernel, by decide +kernel⟩, List.mem_of_getElem? (i := 231) (by decide +kernel), List.mem_of_getElem? (i := 1196) (by decide +kernel), List.mem_of_getElem? (i := 1197) (by decide +kernel)⟩
theorem lw_p95 : lw_okq (⟨"HornBridge$Rules", "actBy", "([I)I"⟩, 7) := ⟨⟨by decide +kernel, by decide +kernel⟩, List.mem_of_getElem? (i := 677) (by decide +kernel), List.mem_of_getElem? (i := 1200) (by decide +kernel), List.mem_of_getElem? (i := 1201) (by decide +kernel)⟩
def lw_privs_6 : List (MethodName × Nat) := [(⟨"HornBridge$Crossing", "allCanPass", "()Z"⟩, 12), (⟨"HornBridge$Crossing", "canPassWithin", "(I)Z"⟩, 12), (⟨"HornBridge$Crossing", "dearestByPlan", "(LHornBridge$River;)I"⟩, 12), (⟨"HornBridge$Crossing", "openedByPlan", "()I"⟩, 12), (⟨"HornBridge$Crossing", "busiestByPlan", "()I"⟩, 12), (⟨"HornBridge$Keeper", "spendDay", "(LHornBridge$River;LHornBridge$Rules;I)V"⟩, 17), (⟨"HornBridge$Keeper", "comeLater", "(LHornBridge$River;I)V"⟩, 17), (⟨"HornBridge$Keeper", "delay", "(I)I"⟩, 17), (⟨"HornBridge$Keeper", "endWhatIsOver", "()V"⟩, 17), (⟨"HornBridge$Keeper", "left", "()I"⟩, 17), (⟨"HornBridge$Keeper", "strikeSails", "()V"⟩, 17), (⟨"HornBridge$Keeper", "firstShipLeft", "()I"⟩, 17), (⟨"HornBridge$Keeper", "strikeIfDue", "(I)V"⟩, 17), (⟨"HornBridge$Keeper", "obey", "(LHornBridge$River;LHornBridge$Rules;)V"⟩, 17), (⟨"HornBridge$Keeper", "gatherFacts", "()V"⟩, 17), (⟨"HornBridge$Rules", "actBy", "([I)I"⟩, 7)]
theorem lw_r6 : ∀ q ∈ lw_privs_6, lw_okq q := List.forall_mem_cons.mpr ⟨lw_p80, List.forall_mem_cons.mpr ⟨lw_p81, List.forall_mem_cons.mpr ⟨lw_p82, List.forall_mem_cons.mpr ⟨lw_p83, List.forall_mem_cons.mpr ⟨lw_p84, List.forall_mem_cons.mpr ⟨lw_p85, List.forall_mem_cons.mpr ⟨lw_p86, List.forall_mem_cons.mpr ⟨lw_p87, List.forall_mem_cons.mpr ⟨lw_p88, List.forall_mem_cons.mpr ⟨lw_p89, List.forall_mem_cons.mpr ⟨lw_p90, List.forall_mem_cons.mpr ⟨lw_p91, List.forall_mem_cons.mpr ⟨lw_p92, List.forall_mem_cons.mpr ⟨lw_p93, List.forall_mem_cons.mpr ⟨lw_p94, List.forall_mem_cons.mpr ⟨lw_p95, fun _ h => absurd h List.not_mem_nil⟩⟩⟩⟩⟩⟩⟩⟩⟩⟩⟩⟩⟩⟩⟩⟩
theorem lw_p96 : lw_okq (⟨"HornBridge$Rules", "holds", "(II[I)Z"⟩, 7) := ⟨⟨by decide +kernel, by decide +kernel⟩, List.mem_of_getElem? (i := 677) (by decide +kernel), List.mem_of_getElem? (i := 1204) (by decide +kernel), List.mem_of_getElem? (i := 1205) (by decide +kernel)⟩
theorem lw_p97 : lw_okq (⟨"HornBridge$Rules", "compares", "(I[I)Z"⟩, 7) := ⟨⟨by decide +kernel, by decide +kernel⟩, List.mem_of_getElem? (i := 677) (by decide +kernel), List.mem_of_getElem? (i := 1209) (by decide +kernel), List.mem_of_getElem? (i := 1210) (by decide +kernel)⟩
theorem lw_p98 : lw_okq (⟨"HornBridge$Keeper", "beginNext", "()V"⟩, 17) := ⟨⟨by decide +kernel, by decide +kernel⟩, List.mem_of_getElem? (i := 231) (by decide +kernel), List.mem_of_getElem? (i := 1214) (by decide +kernel), List.mem_of_getElem? (i := 1215) (by decide +kernel)⟩
theorem lw_p99 : lw_okq (⟨"HornBridge$Keeper", "begin", "(ILHornBridge$Lane;I)V"⟩, 17) := ⟨⟨by decide +kernel, by decide +kernel⟩, List.mem_of_getElem? (i := 231) (by decide +kernel), List.mem_of_getElem? (i := 1218) (by decide +kernel), List.mem_of_getElem? (i := 1219) (by decide +kernel)⟩
theorem lw_p100 : lw_okq (⟨"HornBridge$Keeper", "tellDay", "()V"⟩, 17) := ⟨⟨by decide +kernel, by decide +kernel⟩, List.mem_of_getElem? (i := 231) (by decide +kernel), List.mem_of_getElem? (i := 1222) (by decide +kernel), List.mem_of_getElem? (i := 1223) (by decide +kernel)⟩
theorem lw_p101 : lw_okq (⟨"HornBridge", "wrongSeeds", "(II)I"⟩, 18) := ⟨⟨by decide +kernel, by decide +kernel⟩, List.mem_of_getElem? (i := 24) (by decide +kernel), List.mem_of_getElem? (i := 1234) (by decide +kernel), List.mem_of_getElem? (i := 1235) (by decide +kernel)⟩
theorem lw_p102 : lw_okq (⟨"HornBridgeModel", "is", "(I)Z"⟩, 76) := ⟨⟨by decide +kernel, by decide +kernel⟩, List.mem_of_getElem? (i := 1251) (by decide +kernel), List.mem_of_getElem? (i := 1505) (by decide +kernel), List.mem_of_getElem? (i := 1506) (by decide +kernel)⟩
theorem lw_p103 : lw_okq (⟨"HornBridgeModel", "wrongPlace", "(II)I"⟩, 76) := ⟨⟨by decide +kernel, by decide +kernel⟩, List.mem_of_getElem? (i := 1251) (by decide +kernel), List.mem_of_getElem? (i := 1513) (by decide +kernel), List.mem_of_getElem? (i := 1514) (by decide +kernel)⟩
theorem lw_p104 : lw_okq (⟨"HornBridgeModel", "four", "(I)V"⟩, 76) := ⟨⟨by decide +kernel, by decide +kernel⟩, List.mem_of_getElem? (i := 1251) (by decide +kernel), List.mem_of_getElem? (i := 1533) (by decide +kernel), List.mem_of_getElem? (i := 1534) (by decide +kernel)⟩
theorem lw_p105 : lw_okq (⟨"HornBridgeModel", "begins", "(II)Z"⟩, 76) := ⟨⟨by decide +kernel, by decide +kernel⟩, List.mem_of_getElem? (i := 1251) (by decide +kernel), List.mem_of_getElem? (i := 1545) (by decide +kernel), List.mem_of_getElem? (i := 1546) (by decide +kernel)⟩
theorem lw_p106 : lw_okq (⟨"HornBridgeModel", "ahead", "()V"⟩, 76) := ⟨⟨by decide +kernel, by decide +kernel⟩, List.mem_of_getElem? (i := 1251) (by decide +kernel), List.mem_of_getElem? (i := 1549) (by decide +kernel), List.mem_of_getElem? (i := 1550) (by decide +kernel)⟩
theorem lw_p107 : lw_okq (⟨"HornBridgeModel", "byteAt", "(I)I"⟩, 76) := ⟨⟨by decide +kernel, by decide +kernel⟩, List.mem_of_getElem? (i := 1251) (by decide +kernel), List.mem_of_getElem? (i := 1553) (by decide +kernel), List.mem_of_getElem? (i := 1554) (by decide +kernel)⟩
theorem lw_p108 : lw_okq (⟨"HornBridgeModel", "refuse", "(I)I"⟩, 76) := ⟨⟨by decide +kernel, by decide +kernel⟩, List.mem_of_getElem? (i := 1251) (by decide +kernel), List.mem_of_getElem? (i := 1565) (by decide +kernel), List.mem_of_getElem? (i := 1566) (by decide +kernel)⟩
theorem lw_p109 : lw_okq (⟨"HornBridgeModel", "riverPart", "()Z"⟩, 76) := ⟨⟨by decide +kernel, by decide +kernel⟩, List.mem_of_getElem? (i := 1251) (by decide +kernel), List.mem_of_getElem? (i := 1569) (by decide +kernel), List.mem_of_getElem? (i := 1570) (by decide +kernel)⟩
theorem lw_p110 : lw_okq (⟨"HornBridgeModel", "inWords", "(Ljava/lang/String;)I"⟩, 76) := ⟨⟨by decide +kernel, by decide +kernel⟩, List.mem_of_getElem? (i := 1251) (by decide +kernel), List.mem_of_getElem? (i := 1574) (by decide +kernel), List.mem_of_getElem? (i := 1575) (by decide +kernel)⟩
theorem lw_p111 : lw_okq (⟨"HornBridgeModel", "aPort", "()Z"⟩, 76) := ⟨⟨by decide +kernel, by decide +kernel⟩, List.mem_of_getElem? (i := 1251) (by decide +kernel), List.mem_of_getElem? (i := 1626) (by decide +kernel), List.mem_of_getElem? (i := 1627) (by decide +kernel)⟩
def lw_privs_7 : List (MethodName × Nat) := [(⟨"HornBridge$Rules", "holds", "(II[I)Z"⟩, 7), (⟨"HornBridge$Rules", "compares", "(I[I)Z"⟩, 7), (⟨"HornBridge$Keeper", "beginNext", "()V"⟩, 17), (⟨"HornBridge$Keeper", "begin", "(ILHornBridge$Lane;I)V"⟩, 17), (⟨"HornBridge$Keeper", "tellDay", "()V"⟩, 17), (⟨"HornBridge", "wrongSeeds", "(II)I"⟩, 18), (⟨"HornBridgeModel", "is", "(I)Z"⟩, 76), (⟨"HornBridgeModel", "wrongPlace", "(II)I"⟩, 76), (⟨"HornBridgeModel", "four", "(I)V"⟩, 76), (⟨"HornBridgeModel", "begins", "(II)Z"⟩, 76), (⟨"HornBridgeModel", "ahead", "()V"⟩, 76), (⟨"HornBridgeModel", "byteAt", "(I)I"⟩, 76), (⟨"HornBridgeModel", "refuse", "(I)I"⟩, 76), (⟨"HornBridgeModel", "riverPart", "()Z"⟩, 76), (⟨"HornBridgeModel", "inWords", "(Ljava/lang/String;)I"⟩, 76), (⟨"HornBridgeModel", "aPort", "()Z"⟩, 76)]
theorem lw_r7 : ∀ q ∈ lw_privs_7, lw_okq q := List.forall_mem_cons.mpr ⟨lw_p96, List.forall_mem_cons.mpr ⟨lw_p97, List.forall_mem_cons.mpr ⟨lw_p98, List.forall_mem_cons.mpr ⟨lw_p99, List.forall_mem_cons.mpr ⟨lw_p100, List.forall_mem_cons.mpr ⟨lw_p101, List.forall_mem_cons.mpr ⟨lw_p102, List.forall_mem_cons.mpr ⟨lw_p103, List.forall_mem_cons.mpr ⟨lw_p104, List.forall_mem_cons.mpr ⟨lw_p105, List.forall_mem_cons.mpr ⟨lw_p106, List.forall_mem_cons.mpr ⟨lw_p107, List.forall_mem_cons.mpr ⟨lw_p108, List.forall_mem_cons.mpr ⟨lw_p109, List.forall_mem_cons.mpr ⟨lw_p110, List.forall_mem_cons.mpr ⟨lw_p111, fun _ h => absurd h List.not_mem_nil⟩⟩⟩⟩⟩⟩⟩⟩⟩⟩⟩⟩⟩⟩⟩⟩
theorem lw_p112 : lw_okq (⟨"HornBridgeModel", "fails", "(I)Z"⟩, 76) := ⟨⟨by decide +kernel, by decide +kernel⟩, List.mem_of_getElem? (i := 1251) (by decide +kernel), List.mem_of_getElem? (i := 1630) (by decide +kernel), List.mem_of_getElem? (i := 1631) (by decide +kernel)⟩
theorem lw_p113 : lw_okq (⟨"HornBridgeModel", "aNewName", "(I)Z"⟩, 76) := ⟨⟨by decide +kernel, by decide +kernel⟩, List.mem_of_getElem? (i := 1251) (by decide +kernel), List.mem_of_getElem? (i := 1634) (by decide +kernel), List.mem_of_getElem? (i := 1635) (by decide +kernel)⟩
theorem lw_p114 : lw_okq (⟨"HornBridgeModel", "isName", "(Ljava/lang/String;)Z"⟩, 76) := ⟨⟨by decide +kernel, by decide +kernel⟩, List.mem_of_getElem? (i := 1251) (by decide +kernel), List.mem_of_getElem? (i := 1638) (by decide +kernel), List.mem_of_getElem? (i := 1639) (by decide +kernel)⟩
theorem lw_p115 : lw_okq (⟨"HornBridgeModel", "findHere", "(II)I"⟩, 76) := ⟨⟨by decide +kernel, by decide +kernel⟩, List.mem_of_getElem? (i := 1251) (by decide +kernel), List.mem_of_getElem? (i := 1642) (by decide +kernel), List.mem_of_getElem? (i := 1643) (by decide +kernel)⟩
theorem lw_p116 : lw_okq (⟨"HornBridgeModel", "nameHere", "()J"⟩, 76) := ⟨⟨by decide +kernel, by decide +kernel⟩, List.mem_of_getElem? (i := 1251) (by decide +kernel), List.mem_of_getElem? (i := 1646) (by decide +kernel), List.mem_of_getElem? (i := 1647) (by decide +kernel)⟩
theorem lw_p117 : lw_okq (⟨"HornBridgeModel", "wantWord", "(Ljava/lang/String;I)Z"⟩, 76) := ⟨⟨by decide +kernel, by decide +kernel⟩, List.mem_of_getElem? (i := 1251) (by decide +kernel), List.mem_of_getElem? (i := 1650) (by decide +kernel), List.mem_of_getElem? (i := 1651) (by decide +kernel)⟩
theorem lw_p118 : lw_okq (⟨"HornBridgeModel", "areBlasts", "()Z"⟩, 76) := ⟨⟨by decide +kernel, by decide +kernel⟩, List.mem_of_getElem? (i := 1251) (by decide +kernel), List.mem_of_getElem? (i := 1654) (by decide +kernel), List.mem_of_getElem? (i := 1655) (by decide +kernel)⟩
theorem lw_p119 : lw_okq (⟨"HornBridgeModel", "aShip", "()Z"⟩, 76) := ⟨⟨by decide +kernel, by decide +kernel⟩, List.mem_of_getElem? (i := 1251) (by decide +kernel), List.mem_of_getElem? (i := 1658) (by decide +kernel), List.mem_of_getElem? (i := 1659) (by decide +kernel)⟩
theorem lw_p120 : lw_okq (⟨"HornBridgeModel", "passes", "(I)Z"⟩, 76) := ⟨⟨by decide +kernel, by decide +kernel⟩, List.mem_of_getElem? (i := 1251) (by decide +kernel), List.mem_of_getElem? (i := 1662) (by decide +kernel), List.mem_of_getElem? (i := 1663) (by decide +kernel)⟩
theorem lw_p121 : lw_okq (⟨"HornBridgeModel", "number", "(III)Z"⟩, 76) := ⟨⟨by decide +kernel, by decide +kernel⟩, List.mem_of_getElem? (i := 1251) (by decide +kernel), List.mem_of_getElem? (i := 1666) (by decide +kernel), List.mem_of_getElem? (i := 1667) (by decide +kernel)⟩
theorem lw_p122 : lw_okq (⟨"HornBridgeModel", "aCart", "()Z"⟩, 76) := ⟨⟨by decide +kernel, by decide +kernel⟩, List.mem_of_getElem? (i := 1251) (by decide +kernel), List.mem_of_getElem? (i := 1670) (by decide +kernel), List.mem_of_getElem? (i := 1671) (by decide +kernel)⟩
theorem lw_p123 : lw_okq (⟨"HornBridgeModel", "once", "(I)Z"⟩, 76) := ⟨⟨by decide +kernel, by decide +kernel⟩, List.mem_of_getElem? (i := 1251) (by decide +kernel), List.mem_of_getElem? (i := 1674) (by decide +kernel), List.mem_of_getElem? (i := 1675) (by decide +kernel)⟩
theorem lw_p124 : lw_okq (⟨"HornBridgeModel", "wantSign", "(I)Z"⟩, 76) := ⟨⟨by decide +kernel, by decide +kernel⟩, List.mem_of_getElem? (i := 1251) (by decide +kernel), List.mem_of_getElem? (i := 1678) (by decide +kernel), List.mem_of_getElem? (i := 1679) (by decide +kernel)⟩
theorem lw_p125 : lw_okq (⟨"HornBridgeModel", "isSign", "(I)Z"⟩, 76) := ⟨⟨by decide +kernel, by decide +kernel⟩, List.mem_of_getElem? (i := 1251) (by decide +kernel), List.mem_of_getElem? (i := 1682) (by decide +kernel), List.mem_of_getElem? (i := 1683) (by decide +kernel)⟩
theorem lw_p126 : lw_okq (⟨"HornBridgeModel", "taken", "(I)I"⟩, 76) := ⟨⟨by decide +kernel, by decide +kernel⟩, List.mem_of_getElem? (i := 1251) (by decide +kernel), List.mem_of_getElem? (i := 1686) (by decide +kernel), List.mem_of_getElem? (i := 1687) (by decide +kernel)⟩
theorem lw_p127 : lw_okq (⟨"HornBridgeModel", "gives", "(I)I"⟩, 76) := ⟨⟨by decide +kernel, by decide +kernel⟩, List.mem_of_getElem? (i := 1251) (by decide +kernel), List.mem_of_getElem? (i := 1690) (by decide +kernel), List.mem_of_getElem? (i := 1691) (by decide +kernel)⟩
def lw_privs_8 : List (MethodName × Nat) := [(⟨"HornBridgeModel", "fails", "(I)Z"⟩, 76), (⟨"HornBridgeModel", "aNewName", "(I)Z"⟩, 76), (⟨"HornBridgeModel", "isName", "(Ljava/lang/String;)Z"⟩, 76), (⟨"HornBridgeModel", "findHere", "(II)I"⟩, 76), (⟨"HornBridgeModel", "nameHere", "()J"⟩, 76), (⟨"HornBridgeModel", "wantWord", "(Ljava/lang/String;I)Z"⟩, 76), (⟨"HornBridgeModel", "areBlasts", "()Z"⟩, 76), (⟨"HornBridgeModel", "aShip", "()Z"⟩, 76), (⟨"HornBridgeModel", "passes", "(I)Z"⟩, 76), (⟨"HornBridgeModel", "number", "(III)Z"⟩, 76), (⟨"HornBridgeModel", "aCart", "()Z"⟩, 76), (⟨"HornBridgeModel", "once", "(I)Z"⟩, 76), (⟨"HornBridgeModel", "wantSign", "(I)Z"⟩, 76), (⟨"HornBridgeModel", "isSign", "(I)Z"⟩, 76), (⟨"HornBridgeModel", "taken", "(I)I"⟩, 76), (⟨"HornBridgeModel", "gives", "(I)I"⟩, 76)]
theorem lw_r8 : ∀ q ∈ lw_privs_8, lw_okq q := List.forall_mem_cons.mpr ⟨lw_p112, List.forall_mem_cons.mpr ⟨lw_p113, List.forall_mem_cons.mpr ⟨lw_p114, List.forall_mem_cons.mpr ⟨lw_p115, List.forall_mem_cons.mpr ⟨lw_p116, List.forall_mem_cons.mpr ⟨lw_p117, List.forall_mem_cons.mpr ⟨lw_p118, List.forall_mem_cons.mpr ⟨lw_p119, List.forall_mem_cons.mpr ⟨lw_p120, List.forall_mem_cons.mpr ⟨lw_p121, List.forall_mem_cons.mpr ⟨lw_p122, List.forall_mem_cons.mpr ⟨lw_p123, List.forall_mem_cons.mpr ⟨lw_p124, List.forall_mem_cons.mpr ⟨lw_p125, List.forall_mem_cons.mpr ⟨lw_p126, List.forall_mem_cons.mpr ⟨lw_p127, fun _ h => absurd h List.not_mem_nil⟩⟩⟩⟩⟩⟩⟩⟩⟩⟩⟩⟩⟩⟩⟩⟩
theorem lw_p128 : lw_okq (⟨"HornBridgeModel", "aRule", "()Z"⟩, 76) := ⟨⟨by decide +kernel, by decide +kernel⟩, List.mem_of_getElem? (i := 1251) (by decide +kernel), List.mem_of_getElem? (i := 1698) (by decide +kernel), List.mem_of_getElem? (i := 1699) (by decide +kernel)⟩
theorem lw_p129 : lw_okq (⟨"HornBridgeModel", "conditions", "()Z"⟩, 76) := ⟨⟨by decide +kernel, by decide +kernel⟩, List.mem_of_getElem? (i := 1251) (by decide +kernel), List.mem_of_getElem? (i := 1702) (by decide +kernel), List.mem_of_getElem? (i := 1703) (by decide +kernel)⟩
theorem lw_p130 : lw_okq (⟨"HornBridgeModel", "aOne", "()Z"⟩, 76) := ⟨⟨by decide +kernel, by decide +kernel⟩, List.mem_of_getElem? (i := 1251) (by decide +kernel), List.mem_of_getElem? (i := 1706) (by decide +kernel), List.mem_of_getElem? (i := 1707) (by decide +kernel)⟩
theorem lw_p131 : lw_okq (⟨"HornBridgeModel", "does", "(I)V"⟩, 76) := ⟨⟨by decide +kernel, by decide +kernel⟩, List.mem_of_getElem? (i := 1251) (by decide +kernel), List.mem_of_getElem? (i := 1710) (by decide +kernel), List.mem_of_getElem? (i := 1711) (by decide +kernel)⟩
theorem lw_p132 : lw_okq (⟨"HornBridgeModel", "aCase", "(I)Z"⟩, 76) := ⟨⟨by decide +kernel, by decide +kernel⟩, List.mem_of_getElem? (i := 1251) (by decide +kernel), List.mem_of_getElem? (i := 1714) (by decide +kernel), List.mem_of_getElem? (i := 1715) (by decide +kernel)⟩
theorem lw_p133 : lw_okq (⟨"HornBridgeModel", "asksAlso", "(I)V"⟩, 76) := ⟨⟨by decide +kernel, by decide +kernel⟩, List.mem_of_getElem? (i := 1251) (by decide +kernel), List.mem_of_getElem? (i := 1718) (by decide +kernel), List.mem_of_getElem? (i := 1719) (by decide +kernel)⟩
theorem lw_p134 : lw_okq (⟨"HornBridgeModel", "turnsRound", "()V"⟩, 76) := ⟨⟨by decide +kernel, by decide +kernel⟩, List.mem_of_getElem? (i := 1251) (by decide +kernel), List.mem_of_getElem? (i := 1722) (by decide +kernel), List.mem_of_getElem? (i := 1723) (by decide +kernel)⟩
theorem lw_p135 : lw_okq (⟨"HornBridgeModel", "isDoing", "(I)Z"⟩, 76) := ⟨⟨by decide +kernel, by decide +kernel⟩, List.mem_of_getElem? (i := 1251) (by decide +kernel), List.mem_of_getElem? (i := 1726) (by decide +kernel), List.mem_of_getElem? (i := 1727) (by decide +kernel)⟩
theorem lw_p136 : lw_okq (⟨"HornBridgeModel", "joins", "()V"⟩, 76) := ⟨⟨by decide +kernel, by decide +kernel⟩, List.mem_of_getElem? (i := 1251) (by decide +kernel), List.mem_of_getElem? (i := 1730) (by decide +kernel), List.mem_of_getElem? (i := 1731) (by decide +kernel)⟩
theorem lw_p137 : lw_okq (⟨"HornBridgeModel", "isWithin", "()Z"⟩, 76) := ⟨⟨by decide +kernel, by decide +kernel⟩, List.mem_of_getElem? (i := 1251) (by decide +kernel), List.mem_of_getElem? (i := 1734) (by decide +kernel), List.mem_of_getElem? (i := 1735) (by decide +kernel)⟩
theorem lw_p138 : lw_okq (⟨"HornBridgeModel", "isShip", "(I)Z"⟩, 76) := ⟨⟨by decide +kernel, by decide +kernel⟩, List.mem_of_getElem? (i := 1251) (by decide +kernel), List.mem_of_getElem? (i := 1746) (by decide +kernel), List.mem_of_getElem? (i := 1747) (by decide +kernel)⟩
theorem lw_p139 : lw_okq (⟨"HornBridgeModel", "isCart", "(I)Z"⟩, 76) := ⟨⟨by decide +kernel, by decide +kernel⟩, List.mem_of_getElem? (i := 1251) (by decide +kernel), List.mem_of_getElem? (i := 1754) (by decide +kernel), List.mem_of_getElem? (i := 1755) (by decide +kernel)⟩
theorem lw_p140 : lw_okq (⟨"HornBridgeModel", "isPort", "(I)Z"⟩, 76) := ⟨⟨by decide +kernel, by decide +kernel⟩, List.mem_of_getElem? (i := 1251) (by decide +kernel), List.mem_of_getElem? (i := 1762) (by decide +kernel), List.mem_of_getElem? (i := 1763) (by decide +kernel)⟩
theorem lw_p141 : lw_okq (⟨"HornBridgeModel", "soundOf", "(I)J"⟩, 76) := ⟨⟨by decide +kernel, by decide +kernel⟩, List.mem_of_getElem? (i := 1251) (by decide +kernel), List.mem_of_getElem? (i := 1766) (by decide +kernel), List.mem_of_getElem? (i := 1767) (by decide +kernel)⟩
theorem lw_p142 : lw_okq (⟨"HornBridgeModel", "beatsOf", "(II)J"⟩, 76) := ⟨⟨by decide +kernel, by decide +kernel⟩, List.mem_of_getElem? (i := 1251) (by decide +kernel), List.mem_of_getElem? (i := 1770) (by decide +kernel), List.mem_of_getElem? (i := 1771) (by decide +kernel)⟩
theorem lw_p143 : lw_okq (⟨"HornBridgeModel", "givesLong", "(J)J"⟩, 76) := ⟨⟨by decide +kernel, by decide +kernel⟩, List.mem_of_getElem? (i := 1251) (by decide +kernel), List.mem_of_getElem? (i := 1774) (by decide +kernel), List.mem_of_getElem? (i := 1775) (by decide +kernel)⟩
def lw_privs_9 : List (MethodName × Nat) := [(⟨"HornBridgeModel", "aRule", "()Z"⟩, 76), (⟨"HornBridgeModel", "conditions", "()Z"⟩, 76), (⟨"HornBridgeModel", "aOne", "()Z"⟩, 76), (⟨"HornBridgeModel", "does", "(I)V"⟩, 76), (⟨"HornBridgeModel", "aCase", "(I)Z"⟩, 76), (⟨"HornBridgeModel", "asksAlso", "(I)V"⟩, 76), (⟨"HornBridgeModel", "turnsRound", "()V"⟩, 76), (⟨"HornBridgeModel", "isDoing", "(I)Z"⟩, 76), (⟨"HornBridgeModel", "joins", "()V"⟩, 76), (⟨"HornBridgeModel", "isWithin", "()Z"⟩, 76), (⟨"HornBridgeModel", "isShip", "(I)Z"⟩, 76), (⟨"HornBridgeModel", "isCart", "(I)Z"⟩, 76), (⟨"HornBridgeModel", "isPort", "(I)Z"⟩, 76), (⟨"HornBridgeModel", "soundOf", "(I)J"⟩, 76), (⟨"HornBridgeModel", "beatsOf", "(II)J"⟩, 76), (⟨"HornBridgeModel", "givesLong", "(J)J"⟩, 76)]
theorem lw_r9 : ∀ q ∈ lw_privs_9, lw_okq q := List.forall_mem_cons.mpr ⟨lw_p128, List.forall_mem_cons.mpr ⟨lw_p129, List.forall_mem_cons.mpr ⟨lw_p130, List.forall_mem_cons.mpr ⟨lw_p131, List.forall_mem_cons.mpr ⟨lw_p132, List.forall_mem_cons.mpr ⟨lw_p133, List.forall_mem_cons.mpr ⟨lw_p134, List.forall_mem_cons.mpr ⟨lw_p135, List.forall_mem_cons.mpr ⟨lw_p136, List.forall_mem_cons.mpr ⟨lw_p137, List.forall_mem_cons.mpr ⟨lw_p138, List.forall_mem_cons.mpr ⟨lw_p139, List.forall_mem_cons.mpr ⟨lw_p140, List.forall_mem_cons.mpr ⟨lw_p141, List.forall_mem_cons.mpr ⟨lw_p142, List.forall_mem_cons.mpr ⟨lw_p143, fun _ h => absurd h List.not_mem_nil⟩⟩⟩⟩⟩⟩⟩⟩⟩⟩⟩⟩⟩⟩⟩⟩
theorem lw_p144 : lw_okq (⟨"HornBridgeModel", "heardOf", "(I)J"⟩, 76) := ⟨⟨by decide +kernel, by decide +kernel⟩, List.mem_of_getElem? (i := 1251) (by decide +kernel), List.mem_of_getElem? (i := 1782) (by decide +kernel), List.mem_of_getElem? (i := 1783) (by decide +kernel)⟩
theorem lw_p145 : lw_okq (⟨"HornBridgeModel", "findsReadings", "(J)V"⟩, 76) := ⟨⟨by decide +kernel, by decide +kernel⟩, List.mem_of_getElem? (i := 1251) (by decide +kernel), List.mem_of_getElem? (i := 1812) (by decide +kernel), List.mem_of_getElem? (i := 1813) (by decide +kernel)⟩
theorem lw_p146 : lw_okq (⟨"HornBridgeModel", "reads", "(III)V"⟩, 76) := ⟨⟨by decide +kernel, by decide +kernel⟩, List.mem_of_getElem? (i := 1251) (by decide +kernel), List.mem_of_getElem? (i := 1816) (by decide +kernel), List.mem_of_getElem? (i := 1817) (by decide +kernel)⟩
theorem lw_p147 : lw_okq (⟨"HornBridgeModel", "orNone", "(I)I"⟩, 76) := ⟨⟨by decide +kernel, by decide +kernel⟩, List.mem_of_getElem? (i := 1251) (by decide +kernel), List.mem_of_getElem? (i := 1824) (by decide +kernel), List.mem_of_getElem? (i := 1825) (by decide +kernel)⟩
theorem lw_p148 : lw_okq (⟨"HornBridgeModel", "tellsBy", "(JJ)Z"⟩, 76) := ⟨⟨by decide +kernel, by decide +kernel⟩, List.mem_of_getElem? (i := 1251) (by decide +kernel), List.mem_of_getElem? (i := 1832) (by decide +kernel), List.mem_of_getElem? (i := 1833) (by decide +kernel)⟩
theorem lw_p149 : lw_okq (⟨"HornBridgeModel", "alikeBy", "(I)I"⟩, 76) := ⟨⟨by decide +kernel, by decide +kernel⟩, List.mem_of_getElem? (i := 1251) (by decide +kernel), List.mem_of_getElem? (i := 1840) (by decide +kernel), List.mem_of_getElem? (i := 1841) (by decide +kernel)⟩
theorem lw_p150 : lw_okq (⟨"HornBridgeModel", "laysCalls", "(II)V"⟩, 76) := ⟨⟨by decide +kernel, by decide +kernel⟩, List.mem_of_getElem? (i := 1251) (by decide +kernel), List.mem_of_getElem? (i := 1866) (by decide +kernel), List.mem_of_getElem? (i := 1867) (by decide +kernel)⟩
theorem lw_p151 : lw_okq (⟨"HornBridgeModel", "isCode", "(I)Z"⟩, 76) := ⟨⟨by decide +kernel, by decide +kernel⟩, List.mem_of_getElem? (i := 1251) (by decide +kernel), List.mem_of_getElem? (i := 1871) (by decide +kernel), List.mem_of_getElem? (i := 1872) (by decide +kernel)⟩
theorem lw_p152 : lw_okq (⟨"HornBridgeModel", "tellsMinutes", "()V"⟩, 76) := ⟨⟨by decide +kernel, by decide +kernel⟩, List.mem_of_getElem? (i := 1251) (by decide +kernel), List.mem_of_getElem? (i := 1883) (by decide +kernel), List.mem_of_getElem? (i := 1884) (by decide +kernel)⟩
theorem lw_p153 : lw_okq (⟨"HornBridgeModel", "orders", "(I)V"⟩, 76) := ⟨⟨by decide +kernel, by decide +kernel⟩, List.mem_of_getElem? (i := 1251) (by decide +kernel), List.mem_of_getElem? (i := 1887) (by decide +kernel), List.mem_of_getElem? (i := 1888) (by decide +kernel)⟩
theorem lw_p154 : lw_okq (⟨"HornBridgeModel", "leastBy", "(II)I"⟩, 76) := ⟨⟨by decide +kernel, by decide +kernel⟩, List.mem_of_getElem? (i := 1251) (by decide +kernel), List.mem_of_getElem? (i := 1899) (by decide +kernel), List.mem_of_getElem? (i := 1900) (by decide +kernel)⟩
theorem lw_p155 : lw_okq (⟨"HornBridgeModel", "reckons", "()I"⟩, 76) := ⟨⟨by decide +kernel, by decide +kernel⟩, List.mem_of_getElem? (i := 1251) (by decide +kernel), List.mem_of_getElem? (i := 1903) (by decide +kernel), List.mem_of_getElem? (i := 1904) (by decide +kernel)⟩
theorem lw_p156 : lw_okq (⟨"HornBridgeModel", "leftAt", "(IIII)I"⟩, 76) := ⟨⟨by decide +kernel, by decide +kernel⟩, List.mem_of_getElem? (i := 1251) (by decide +kernel), List.mem_of_getElem? (i := 1907) (by decide +kernel), List.mem_of_getElem? (i := 1908) (by decide +kernel)⟩
theorem lw_p157 : lw_okq (⟨"HornBridgeModel", "turnTime", "(II)I"⟩, 76) := ⟨⟨by decide +kernel, by decide +kernel⟩, List.mem_of_getElem? (i := 1251) (by decide +kernel), List.mem_of_getElem? (i := 1915) (by decide +kernel), List.mem_of_getElem? (i := 1916) (by decide +kernel)⟩
theorem lw_p158 : lw_okq (⟨"HornBridgeModel", "mayShip", "(III)Z"⟩, 76) := ⟨⟨by decide +kernel, by decide +kernel⟩, List.mem_of_getElem? (i := 1251) (by decide +kernel), List.mem_of_getElem? (i := 1919) (by decide +kernel), List.mem_of_getElem? (i := 1920) (by decide +kernel)⟩
theorem lw_p159 : lw_okq (⟨"HornBridgeModel", "ofShip", "(II)I"⟩, 76) := ⟨⟨by decide +kernel, by decide +kernel⟩, List.mem_of_getElem? (i := 1251) (by decide +kernel), List.mem_of_getElem? (i := 1923) (by decide +kernel), List.mem_of_getElem? (i := 1924) (by decide +kernel)⟩
def lw_privs_10 : List (MethodName × Nat) := [(⟨"HornBridgeModel", "heardOf", "(I)J"⟩, 76), (⟨"HornBridgeModel", "findsReadings", "(J)V"⟩, 76), (⟨"HornBridgeModel", "reads", "(III)V"⟩, 76), (⟨"HornBridgeModel", "orNone", "(I)I"⟩, 76), (⟨"HornBridgeModel", "tellsBy", "(JJ)Z"⟩, 76), (⟨"HornBridgeModel", "alikeBy", "(I)I"⟩, 76), (⟨"HornBridgeModel", "laysCalls", "(II)V"⟩, 76), (⟨"HornBridgeModel", "isCode", "(I)Z"⟩, 76), (⟨"HornBridgeModel", "tellsMinutes", "()V"⟩, 76), (⟨"HornBridgeModel", "orders", "(I)V"⟩, 76), (⟨"HornBridgeModel", "leastBy", "(II)I"⟩, 76), (⟨"HornBridgeModel", "reckons", "()I"⟩, 76), (⟨"HornBridgeModel", "leftAt", "(IIII)I"⟩, 76), (⟨"HornBridgeModel", "turnTime", "(II)I"⟩, 76), (⟨"HornBridgeModel", "mayShip", "(III)Z"⟩, 76), (⟨"HornBridgeModel", "ofShip", "(II)I"⟩, 76)]
theorem lw_r10 : ∀ q ∈ lw_privs_10, lw_okq q := List.forall_mem_cons.mpr ⟨lw_p144, List.forall_mem_cons.mpr ⟨lw_p145, List.forall_mem_cons.mpr ⟨lw_p146, List.forall_mem_cons.mpr ⟨lw_p147, List.forall_mem_cons.mpr ⟨lw_p148, List.forall_mem_cons.mpr ⟨lw_p149, List.forall_mem_cons.mpr ⟨lw_p150, List.forall_mem_cons.mpr ⟨lw_p151, List.forall_mem_cons.mpr ⟨lw_p152, List.forall_mem_cons.mpr ⟨lw_p153, List.forall_mem_cons.mpr ⟨lw_p154, List.forall_mem_cons.mpr ⟨lw_p155, List.forall_mem_cons.mpr ⟨lw_p156, List.forall_mem_cons.mpr ⟨lw_p157, List.forall_mem_cons.mpr ⟨lw_p158, List.forall_mem_cons.mpr ⟨lw_p159, fun _ h => absurd h List.not_mem_nil⟩⟩⟩⟩⟩⟩⟩⟩⟩⟩⟩⟩⟩⟩⟩⟩
theorem lw_p160 : lw_okq (⟨"HornBridgeModel", "byShip", "(III)I"⟩, 76) := ⟨⟨by decide +kernel, by decide +kernel⟩, List.mem_of_getElem? (i := 1251) (by decide +kernel), List.mem_of_getElem? (i := 1927) (by decide +kernel), List.mem_of_getElem? (i := 1928) (by decide +kernel)⟩
theorem lw_p161 : lw_okq (⟨"HornBridgeModel", "mayCart", "(III)Z"⟩, 76) := ⟨⟨by decide +kernel, by decide +kernel⟩, List.mem_of_getElem? (i := 1251) (by decide +kernel), List.mem_of_getElem? (i := 1931) (by decide +kernel), List.mem_of_getElem? (i := 1932) (by decide +kernel)⟩
theorem lw_p162 : lw_okq (⟨"HornBridgeModel", "byCart", "(III)I"⟩, 76) := ⟨⟨by decide +kernel, by decide +kernel⟩, List.mem_of_getElem? (i := 1251) (by decide +kernel), List.mem_of_getElem? (i := 1935) (by decide +kernel), List.mem_of_getElem? (i := 1936) (by decide +kernel)⟩
theorem lw_p163 : lw_okq (⟨"HornBridgeModel", "ofCart", "(II)I"⟩, 76) := ⟨⟨by decide +kernel, by decide +kernel⟩, List.mem_of_getElem? (i := 1251) (by decide +kernel), List.mem_of_getElem? (i := 1939) (by decide +kernel), List.mem_of_getElem? (i := 1940) (by decide +kernel)⟩
theorem lw_p164 : lw_okq (⟨"HornBridgeModel", "plans", "()Z"⟩, 76) := ⟨⟨by decide +kernel, by decide +kernel⟩, List.mem_of_getElem? (i := 1251) (by decide +kernel), List.mem_of_getElem? (i := 1947) (by decide +kernel), List.mem_of_getElem? (i := 1948) (by decide +kernel)⟩
theorem lw_p165 : lw_okq (⟨"HornBridgeModel", "acts", "(III)V"⟩, 76) := ⟨⟨by decide +kernel, by decide +kernel⟩, List.mem_of_getElem? (i := 1251) (by decide +kernel), List.mem_of_getElem? (i := 1951) (by decide +kernel), List.mem_of_getElem? (i := 1952) (by decide +kernel)⟩
theorem lw_p166 : lw_okq (⟨"HornBridgeModel", "laterBy", "(II)I"⟩, 76) := ⟨⟨by decide +kernel, by decide +kernel⟩, List.mem_of_getElem? (i := 1251) (by decide +kernel), List.mem_of_getElem? (i := 1977) (by decide +kernel), List.mem_of_getElem? (i := 1978) (by decide +kernel)⟩
theorem lw_p167 : lw_okq (⟨"HornBridgeModel", "cameBy", "(I)I"⟩, 76) := ⟨⟨by decide +kernel, by decide +kernel⟩, List.mem_of_getElem? (i := 1251) (by decide +kernel), List.mem_of_getElem? (i := 1993) (by decide +kernel), List.mem_of_getElem? (i := 1994) (by decide +kernel)⟩
theorem lw_p168 : lw_okq (⟨"HornBridgeModel", "costsBy", "(I)I"⟩, 76) := ⟨⟨by decide +kernel, by decide +kernel⟩, List.mem_of_getElem? (i := 1251) (by decide +kernel), List.mem_of_getElem? (i := 1997) (by decide +kernel), List.mem_of_getElem? (i := 1998) (by decide +kernel)⟩
theorem lw_p169 : lw_okq (⟨"HornBridgeModel", "keeps", "(I)V"⟩, 76) := ⟨⟨by decide +kernel, by decide +kernel⟩, List.mem_of_getElem? (i := 1251) (by decide +kernel), List.mem_of_getElem? (i := 2014) (by decide +kernel), List.mem_of_getElem? (i := 2015) (by decide +kernel)⟩
theorem lw_p170 : lw_okq (⟨"HornBridgeModel", "draw", "()I"⟩, 76) := ⟨⟨by decide +kernel, by decide +kernel⟩, List.mem_of_getElem? (i := 1251) (by decide +kernel), List.mem_of_getElem? (i := 2018) (by decide +kernel), List.mem_of_getElem? (i := 2019) (by decide +kernel)⟩
theorem lw_p171 : lw_okq (⟨"HornBridgeModel", "minuteGoes", "()V"⟩, 76) := ⟨⟨by decide +kernel, by decide +kernel⟩, List.mem_of_getElem? (i := 1251) (by decide +kernel), List.mem_of_getElem? (i := 2023) (by decide +kernel), List.mem_of_getElem? (i := 2024) (by decide +kernel)⟩
theorem lw_p172 : lw_okq (⟨"HornBridgeModel", "passesOver", "()V"⟩, 76) := ⟨⟨by decide +kernel, by decide +kernel⟩, List.mem_of_getElem? (i := 1251) (by decide +kernel), List.mem_of_getElem? (i := 2027) (by decide +kernel), List.mem_of_getElem? (i := 2028) (by decide +kernel)⟩
theorem lw_p173 : lw_okq (⟨"HornBridgeModel", "strikes", "()V"⟩, 76) := ⟨⟨by decide +kernel, by decide +kernel⟩, List.mem_of_getElem? (i := 1251) (by decide +kernel), List.mem_of_getElem? (i := 2031) (by decide +kernel), List.mem_of_getElem? (i := 2032) (by decide +kernel)⟩
theorem lw_p174 : lw_okq (⟨"HornBridgeModel", "isBusy", "()Z"⟩, 76) := ⟨⟨by decide +kernel, by decide +kernel⟩, List.mem_of_getElem? (i := 1251) (by decide +kernel), List.mem_of_getElem? (i := 2035) (by decide +kernel), List.mem_of_getElem? (i := 2036) (by decide +kernel)⟩
theorem lw_p175 : lw_okq (⟨"HornBridgeModel", "actNow", "()I"⟩, 76) := ⟨⟨by decide +kernel, by decide +kernel⟩, List.mem_of_getElem? (i := 1251) (by decide +kernel), List.mem_of_getElem? (i := 2039) (by decide +kernel), List.mem_of_getElem? (i := 2040) (by decide +kernel)⟩
def lw_privs_11 : List (MethodName × Nat) := [(⟨"HornBridgeModel", "byShip", "(III)I"⟩, 76), (⟨"HornBridgeModel", "mayCart", "(III)Z"⟩, 76), (⟨"HornBridgeModel", "byCart", "(III)I"⟩, 76), (⟨"HornBridgeModel", "ofCart", "(II)I"⟩, 76), (⟨"HornBridgeModel", "plans", "()Z"⟩, 76), (⟨"HornBridgeModel", "acts", "(III)V"⟩, 76), (⟨"HornBridgeModel", "laterBy", "(II)I"⟩, 76), (⟨"HornBridgeModel", "cameBy", "(I)I"⟩, 76), (⟨"HornBridgeModel", "costsBy", "(I)I"⟩, 76), (⟨"HornBridgeModel", "keeps", "(I)V"⟩, 76), (⟨"HornBridgeModel", "draw", "()I"⟩, 76), (⟨"HornBridgeModel", "minuteGoes", "()V"⟩, 76), (⟨"HornBridgeModel", "passesOver", "()V"⟩, 76), (⟨"HornBridgeModel", "strikes", "()V"⟩, 76), (⟨"HornBridgeModel", "isBusy", "()Z"⟩, 76), (⟨"HornBridgeModel", "actNow", "()I"⟩, 76)]
theorem lw_r11 : ∀ q ∈ lw_privs_11, lw_okq q := List.forall_mem_cons.mpr ⟨lw_p160, List.forall_mem_cons.mpr ⟨lw_p161, List.forall_mem_cons.mpr ⟨lw_p162, List.forall_mem_cons.mpr ⟨lw_p163, List.forall_mem_cons.mpr ⟨lw_p164, List.forall_mem_cons.mpr ⟨lw_p165, List.forall_mem_cons.mpr ⟨lw_p166, List.forall_mem_cons.mpr ⟨lw_p167, List.forall_mem_cons.mpr ⟨lw_p168, List.forall_mem_cons.mpr ⟨lw_p169, List.forall_mem_cons.mpr ⟨lw_p170, List.forall_mem_cons.mpr ⟨lw_p171, List.forall_mem_cons.mpr ⟨lw_p172, List.forall_mem_cons.mpr ⟨lw_p173, List.forall_mem_cons.mpr ⟨lw_p174, List.forall_mem_cons.mpr ⟨lw_p175, fun _ h => absurd h List.not_mem_nil⟩⟩⟩⟩⟩⟩⟩⟩⟩⟩⟩⟩⟩⟩⟩⟩
theorem lw_p176 : lw_okq (⟨"HornBridgeModel", "holds", "(I)Z"⟩, 76) := ⟨⟨by decide +kernel, by decide +kernel⟩, List.mem_of_getElem? (i := 1251) (by decide +kernel), List.mem_of_getElem? (i := 2043) (by decide +kernel), List.mem_of_getElem? (i := 2044) (by decide +kernel)⟩
theorem lw_p177 : lw_okq (⟨"HornBridgeModel", "asked", "(I)Z"⟩, 76) := ⟨⟨by decide +kernel, by decide +kernel⟩, List.mem_of_getElem? (i := 1251) (by decide +kernel), List.mem_of_getElem? (i := 2047) (by decide +kernel), List.mem_of_getElem? (i := 2048) (by decide +kernel)⟩
theorem lw_p178 : lw_okq (⟨"HornBridgeModel", "waitingShips", "()I"⟩, 76) := ⟨⟨by decide +kernel, by decide +kernel⟩, List.mem_of_getElem? (i := 1251) (by decide +kernel), List.mem_of_getElem? (i := 2051) (by decide +kernel), List.mem_of_getElem? (i := 2052) (by decide +kernel)⟩
theorem lw_p179 : lw_okq (⟨"HornBridgeModel", "waitingCarts", "()I"⟩, 76) := ⟨⟨by decide +kernel, by decide +kernel⟩, List.mem_of_getElem? (i := 1251) (by decide +kernel), List.mem_of_getElem? (i := 2055) (by decide +kernel), List.mem_of_getElem? (i := 2056) (by decide +kernel)⟩
theorem lw_p180 : lw_okq (⟨"HornBridgeModel", "nextIn", "()I"⟩, 76) := ⟨⟨by decide +kernel, by decide +kernel⟩, List.mem_of_getElem? (i := 1251) (by decide +kernel), List.mem_of_getElem? (i := 2059) (by decide +kernel), List.mem_of_getElem? (i := 2060) (by decide +kernel)⟩
theorem lw_p181 : lw_okq (⟨"HornBridgeModel", "leftOver", "()I"⟩, 76) := ⟨⟨by decide +kernel, by decide +kernel⟩, List.mem_of_getElem? (i := 1251) (by decide +kernel), List.mem_of_getElem? (i := 2063) (by decide +kernel), List.mem_of_getElem? (i := 2064) (by decide +kernel)⟩
theorem lw_p182 : lw_okq (⟨"HornBridgeModel", "areSeeds", "(II)Z"⟩, 76) := ⟨⟨by decide +kernel, by decide +kernel⟩, List.mem_of_getElem? (i := 1251) (by decide +kernel), List.mem_of_getElem? (i := 2075) (by decide +kernel), List.mem_of_getElem? (i := 2076) (by decide +kernel)⟩
theorem lw_p183 : lw_okq (⟨"HornBridgeModel", "copies", "(II)V"⟩, 76) := ⟨⟨by decide +kernel, by decide +kernel⟩, List.mem_of_getElem? (i := 1251) (by decide +kernel), List.mem_of_getElem? (i := 2087) (by decide +kernel), List.mem_of_getElem? (i := 2088) (by decide +kernel)⟩
def lw_privs_12 : List (MethodName × Nat) := [(⟨"HornBridgeModel", "holds", "(I)Z"⟩, 76), (⟨"HornBridgeModel", "asked", "(I)Z"⟩, 76), (⟨"HornBridgeModel", "waitingShips", "()I"⟩, 76), (⟨"HornBridgeModel", "waitingCarts", "()I"⟩, 76), (⟨"HornBridgeModel", "nextIn", "()I"⟩, 76), (⟨"HornBridgeModel", "leftOver", "()I"⟩, 76), (⟨"HornBridgeModel", "areSeeds", "(II)Z"⟩, 76), (⟨"HornBridgeModel", "copies", "(II)V"⟩, 76)]
theorem lw_r12 : ∀ q ∈ lw_privs_12, lw_okq q := List.forall_mem_cons.mpr ⟨lw_p176, List.forall_mem_cons.mpr ⟨lw_p177, List.forall_mem_cons.mpr ⟨lw_p178, List.forall_mem_cons.mpr ⟨lw_p179, List.forall_mem_cons.mpr ⟨lw_p180, List.forall_mem_cons.mpr ⟨lw_p181, List.forall_mem_cons.mpr ⟨lw_p182, List.forall_mem_cons.mpr ⟨lw_p183, fun _ h => absurd h List.not_mem_nil⟩⟩⟩⟩⟩⟩⟩⟩
def lw_privs : List (MethodName × Nat) := lw_privs_1 ++ (lw_privs_2 ++ (lw_privs_3 ++ (lw_privs_4 ++ (lw_privs_5 ++ (lw_privs_6 ++ (lw_privs_7 ++ (lw_privs_8 ++ (lw_privs_9 ++ (lw_privs_10 ++ (lw_privs_11 ++ (lw_privs_12)))))))))))
def lw_tbl : List Cond := k2_sels lw_privs ++ tables_1
theorem lw_privs_ok : ∀ q ∈ lw_privs, lw_okq q := by
  show ∀ q ∈ lw_privs_1 ++ (lw_privs_2 ++ (lw_privs_3 ++ (lw_privs_4 ++ (lw_privs_5 ++ (lw_privs_6 ++ (lw_privs_7 ++ (lw_privs_8 ++ (lw_privs_9 ++ (lw_privs_10 ++ (lw_privs_11 ++ (lw_privs_12))))))))))), lw_okq q
  exact List.forall_mem_append.mpr ⟨lw_r1, List.forall_mem_append.mpr ⟨lw_r2, List.forall_mem_append.mpr ⟨lw_r3, List.forall_mem_append.mpr ⟨lw_r4, List.forall_mem_append.mpr ⟨lw_r5, List.forall_mem_append.mpr ⟨lw_r6, List.forall_mem_append.mpr ⟨lw_r7, List.forall_mem_append.mpr ⟨lw_r8, List.forall_mem_append.mpr ⟨lw_r9, List.forall_mem_append.mpr ⟨lw_r10, List.forall_mem_append.mpr ⟨lw_r11, lw_r12⟩⟩⟩⟩⟩⟩⟩⟩⟩⟩⟩
-- ===== end of PART A; then your names; then what follows =====
end
section
/-! ===== BEGIN words of one list among another's, by their places ===== -/
theorem goodIn_r {big : List Cond} (ws : List Cond) (ps : List Nat) (hp : ws = ps.filterMap (fun i => big[i]?)) (h : ws.all goodWord = true) : GoodIn big ws := by
  intro w hw
  have h1 := List.all_eq_true.mp h w hw
  rw [hp] at hw
  obtain ⟨i, -, hi⟩ := List.mem_filterMap.mp hw
  have hm : w ∈ big := by first | exact List.mem_of_getElem? hi | exact List.getElem?_mem hi
  exact ⟨hm, good_of_word h1⟩
theorem goodIn_app {big a b : List Cond} (ha : GoodIn big a) (hb : GoodIn big b) : GoodIn big (a ++ b) := fun w h => (List.mem_append.mp h).elim (ha w) (hb w)
theorem goodIn_ca {big a b : List Cond} {c : Cond} (ha : GoodIn big (c :: a)) (hb : GoodIn big b) : GoodIn big (c :: (a ++ b)) := fun w h => (List.mem_cons.mp h).elim (fun e => ha w (List.mem_cons.mpr (Or.inl e))) (fun h => (List.mem_append.mp h).elim (fun h => ha w (List.mem_cons.mpr (Or.inr h))) (hb w))
theorem goodIn_sub {big ws : List Cond} (hm : ∀ w ∈ ws, w ∈ big) (h : ws.all goodWord = true) : GoodIn big ws := fun w hw => ⟨hm w hw, good_of_word (List.all_eq_true.mp h w hw)⟩
/-! ===== END ===== -/

/-! ===== BEGIN printed: names, fields, word lists, decode rows ===== -/
def RX0 : String := "HornBridge$CodeSearch"
def TX0 : u_T := fun k => match k with
  | 0 => ("HornBridge$CodeSearch", "letters", "[J", true)
  | 1 => ("HornBridge$CodeSearch", "blasts", "[I", true)
  | 2 => ("HornBridge$CodeSearch", "heardAs", "[J", true)
  | 3 => ("HornBridge$CodeSearch", "manyCalls", "I", false)
  | 4 => ("HornBridge$CodeSearch", "row", "[I", true)
  | 5 => ("HornBridge$CodeSearch", "rowTold", "[I", true)
  | _ => ("HornBridge$CodeSearch", "manyTold", "I", false)
def tyX0 : Nat → FieldType := fun k => match k with
  | 0 => .array .long
  | 1 => .array .int
  | 2 => .array .long
  | 3 => .int
  | 4 => .array .int
  | 5 => .array .int
  | _ => .int
abbrev wsX00 : List Cond := u_ws RX0 TX0 7
theorem nmX0 : ∀ a, a < 7 → ∀ b, b < 7 → a ≠ b → (TX0 a).2.1 ≠ (TX0 b).2.1 := by decide +kernel
theorem tyX0_ok : ∀ k, k < 7 → parseFieldDescriptor (TX0 k).2.2.1 = some (tyX0 k) := by decide +kernel
abbrev cX0_init : ByteArray := prog_2_method_1_code
def yX0_init : MethodName := ⟨RX0, "<init>", "()V"⟩
abbrev cX0_lettersOf : ByteArray := prog_2_method_2_code
def yX0_lettersOf : MethodName := ⟨RX0, "lettersOf", "(II)J"⟩
abbrev cX0_find : ByteArray := prog_2_method_3_code
def yX0_find : MethodName := ⟨RX0, "find", "(III)Z"⟩
abbrev cX0_extend : ByteArray := prog_2_method_4_code
def yX0_extend : MethodName := ⟨RX0, "extend", "(IIII)Z"⟩
abbrev cX0_fitsLast : ByteArray := prog_2_method_5_code
def yX0_fitsLast : MethodName := ⟨RX0, "fitsLast", "(I)Z"⟩
abbrev cX0_heardInRow : ByteArray := prog_2_method_6_code
def yX0_heardInRow : MethodName := ⟨RX0, "heardInRow", "(I)J"⟩
abbrev cX0_callTold : ByteArray := prog_2_method_7_code
def yX0_callTold : MethodName := ⟨RX0, "callTold", "(I)J"⟩
abbrev cX0_blastsTold : ByteArray := prog_2_method_8_code
def yX0_blastsTold : MethodName := ⟨RX0, "blastsTold", "()I"⟩
def RX1 : String := "HornBridge$Crossing"
def TX1 : u_T := fun k => match k with
  | 0 => ("HornBridge$Crossing", "river", "LHornBridge$River;", false)
  | 1 => ("HornBridge$Crossing", "turns", "I", false)
  | 2 => ("HornBridge$Crossing", "ships", "LHornBridge$Lane;", true)
  | 3 => ("HornBridge$Crossing", "carts", "LHornBridge$Lane;", true)
  | 4 => ("HornBridge$Crossing", "best", "I", false)
  | 5 => ("HornBridge$Crossing", "enough", "I", false)
  | 6 => ("HornBridge$Crossing", "acts", "I", false)
  | 7 => ("HornBridge$Crossing", "planLaid", "[I", true)
  | 8 => ("HornBridge$Crossing", "actsTold", "I", false)
  | 9 => ("HornBridge$Crossing", "planTold", "[I", true)
  | 10 => ("HornBridge$Crossing", "shipBegins", "[I", true)
  | _ => ("HornBridge$Crossing", "cartBegins", "[I", true)
def tyX1 : Nat → FieldType := fun k => match k with
  | 0 => .object "HornBridge$River"
  | 1 => .int
  | 2 => .object "HornBridge$Lane"
  | 3 => .object "HornBridge$Lane"
  | 4 => .int
  | 5 => .int
  | 6 => .int
  | 7 => .array .int
  | 8 => .int
  | 9 => .array .int
  | 10 => .array .int
  | _ => .array .int
abbrev wsX10 : List Cond := u_ws RX1 TX1 12
theorem nmX1 : ∀ a, a < 12 → ∀ b, b < 12 → a ≠ b → (TX1 a).2.1 ≠ (TX1 b).2.1 := by decide +kernel
theorem tyX1_ok : ∀ k, k < 12 → parseFieldDescriptor (TX1 k).2.2.1 = some (tyX1 k) := by decide +kernel
abbrev cX1_init : ByteArray := prog_3_method_1_code
def yX1_init : MethodName := ⟨RX1, "<init>", "()V"⟩
abbrev cX1_takeAll : ByteArray := prog_3_method_2_code
def yX1_takeAll : MethodName := ⟨RX1, "takeAll", "(LHornBridge$River;)V"⟩
abbrev cX1_takeShips : ByteArray := prog_3_method_3_code
def yX1_takeShips : MethodName := ⟨RX1, "takeShips", "(LHornBridge$River;III)V"⟩
abbrev cX1_takeCarts : ByteArray := prog_3_method_4_code
def yX1_takeCarts : MethodName := ⟨RX1, "takeCarts", "(LHornBridge$River;I)V"⟩
abbrev cX1_turnEnd : ByteArray := prog_3_method_5_code
def yX1_turnEnd : MethodName := ⟨RX1, "turnEnd", "(I)I"⟩
abbrev cX1_leastWaits : ByteArray := prog_3_method_6_code
def yX1_leastWaits : MethodName := ⟨RX1, "leastWaits", "()I"⟩
abbrev cX1_canPassWithin : ByteArray := prog_3_method_7_code
def yX1_canPassWithin : MethodName := ⟨RX1, "canPassWithin", "(I)Z"⟩
abbrev cX1_allCanPass : ByteArray := prog_3_method_8_code
def yX1_allCanPass : MethodName := ⟨RX1, "allCanPass", "()Z"⟩
abbrev cX1_canEndWithin : ByteArray := prog_3_method_9_code
def yX1_canEndWithin : MethodName := ⟨RX1, "canEndWithin", "(IZIII)Z"⟩
abbrev cX1_search : ByteArray := prog_3_method_10_code
def yX1_search : MethodName := ⟨RX1, "search", "(IZIII)V"⟩
abbrev cX1_canBegin : ByteArray := prog_3_method_11_code
def yX1_canBegin : MethodName := ⟨RX1, "canBegin", "(LHornBridge$Lane;II)Z"⟩
abbrev cX1_waitsOf : ByteArray := prog_3_method_12_code
def yX1_waitsOf : MethodName := ⟨RX1, "waitsOf", "(LHornBridge$Lane;II)I"⟩
abbrev cX1_layPlan : ByteArray := prog_3_method_13_code
def yX1_layPlan : MethodName := ⟨RX1, "layPlan", "()Z"⟩
abbrev cX1_shipMayBegin : ByteArray := prog_3_method_14_code
def yX1_shipMayBegin : MethodName := ⟨RX1, "shipMayBegin", "(IIII)Z"⟩
abbrev cX1_cartMayBegin : ByteArray := prog_3_method_15_code
def yX1_cartMayBegin : MethodName := ⟨RX1, "cartMayBegin", "(IIII)Z"⟩
abbrev cX1_addAct : ByteArray := prog_3_method_16_code
def yX1_addAct : MethodName := ⟨RX1, "addAct", "(III)V"⟩
abbrev cX1_tellPlan : ByteArray := prog_3_method_17_code
def yX1_tellPlan : MethodName := ⟨RX1, "tellPlan", "()V"⟩
abbrev cX1_dearestByPlan : ByteArray := prog_3_method_18_code
def yX1_dearestByPlan : MethodName := ⟨RX1, "dearestByPlan", "(LHornBridge$River;)I"⟩
abbrev cX1_waitsByNumber : ByteArray := prog_3_method_19_code
def yX1_waitsByNumber : MethodName := ⟨RX1, "waitsByNumber", "(LHornBridge$Lane;[II)I"⟩
abbrev cX1_openedByPlan : ByteArray := prog_3_method_20_code
def yX1_openedByPlan : MethodName := ⟨RX1, "openedByPlan", "()I"⟩
abbrev cX1_busiestByPlan : ByteArray := prog_3_method_21_code
def yX1_busiestByPlan : MethodName := ⟨RX1, "busiestByPlan", "()I"⟩
abbrev cX1_waitingIn : ByteArray := prog_3_method_22_code
def yX1_waitingIn : MethodName := ⟨RX1, "waitingIn", "(LHornBridge$Lane;[II)I"⟩
def RX2 : String := "HornBridge$Keeper"
def TX2 : u_T := fun k => match k with
  | 0 => ("HornBridge$Keeper", "ships", "LHornBridge$Lane;", true)
  | 1 => ("HornBridge$Keeper", "carts", "LHornBridge$Lane;", true)
  | 2 => ("HornBridge$Keeper", "shipStates", "[I", true)
  | 3 => ("HornBridge$Keeper", "facts", "[I", true)
  | 4 => ("HornBridge$Keeper", "draws", "I", false)
  | 5 => ("HornBridge$Keeper", "minute", "I", false)
  | 6 => ("HornBridge$Keeper", "open", "Z", false)
  | 7 => ("HornBridge$Keeper", "underWay", "I", false)
  | 8 => ("HornBridge$Keeper", "until", "I", false)
  | 9 => ("HornBridge$Keeper", "lastTurnEnd", "I", false)
  | 10 => ("HornBridge$Keeper", "cartsBegun", "I", false)
  | 11 => ("HornBridge$Keeper", "waits", "I", false)
  | 12 => ("HornBridge$Keeper", "struck", "I", false)
  | 13 => ("HornBridge$Keeper", "turnsBegun", "I", false)
  | 14 => ("HornBridge$Keeper", "shipsPassed", "I", false)
  | 15 => ("HornBridge$Keeper", "hasTold", "Z", false)
  | _ => ("HornBridge$Keeper", "dayTold", "[I", true)
def tyX2 : Nat → FieldType := fun k => match k with
  | 0 => .object "HornBridge$Lane"
  | 1 => .object "HornBridge$Lane"
  | 2 => .array .int
  | 3 => .array .int
  | 4 => .int
  | 5 => .int
  | 6 => .boolean
  | 7 => .int
  | 8 => .int
  | 9 => .int
  | 10 => .int
  | 11 => .int
  | 12 => .int
  | 13 => .int
  | 14 => .int
  | 15 => .boolean
  | _ => .array .int
abbrev wsX20 : List Cond := u_ws RX2 TX2 17
theorem nmX2 : ∀ a, a < 17 → ∀ b, b < 17 → a ≠ b → (TX2 a).2.1 ≠ (TX2 b).2.1 := by decide +kernel
theorem tyX2_ok : ∀ k, k < 17 → parseFieldDescriptor (TX2 k).2.2.1 = some (tyX2 k) := by decide +kernel
abbrev cX2_init : ByteArray := prog_4_method_1_code
def yX2_init : MethodName := ⟨RX2, "<init>", "()V"⟩
abbrev cX2_spendDay : ByteArray := prog_4_method_2_code
def yX2_spendDay : MethodName := ⟨RX2, "spendDay", "(LHornBridge$River;LHornBridge$Rules;I)V"⟩
abbrev cX2_comeLater : ByteArray := prog_4_method_3_code
def yX2_comeLater : MethodName := ⟨RX2, "comeLater", "(LHornBridge$River;I)V"⟩
abbrev cX2_delay : ByteArray := prog_4_method_4_code
def yX2_delay : MethodName := ⟨RX2, "delay", "(I)I"⟩
abbrev cX2_endWhatIsOver : ByteArray := prog_4_method_5_code
def yX2_endWhatIsOver : MethodName := ⟨RX2, "endWhatIsOver", "()V"⟩
abbrev cX2_strikeSails : ByteArray := prog_4_method_6_code
def yX2_strikeSails : MethodName := ⟨RX2, "strikeSails", "()V"⟩
abbrev cX2_strikeIfDue : ByteArray := prog_4_method_7_code
def yX2_strikeIfDue : MethodName := ⟨RX2, "strikeIfDue", "(I)V"⟩
abbrev cX2_firstShipLeft : ByteArray := prog_4_method_8_code
def yX2_firstShipLeft : MethodName := ⟨RX2, "firstShipLeft", "()I"⟩
abbrev cX2_obey : ByteArray := prog_4_method_9_code
def yX2_obey : MethodName := ⟨RX2, "obey", "(LHornBridge$River;LHornBridge$Rules;)V"⟩
abbrev cX2_gatherFacts : ByteArray := prog_4_method_10_code
def yX2_gatherFacts : MethodName := ⟨RX2, "gatherFacts", "()V"⟩
abbrev cX2_beginNext : ByteArray := prog_4_method_11_code
def yX2_beginNext : MethodName := ⟨RX2, "beginNext", "()V"⟩
abbrev cX2_begin : ByteArray := prog_4_method_12_code
def yX2_begin : MethodName := ⟨RX2, "begin", "(ILHornBridge$Lane;I)V"⟩
abbrev cX2_left : ByteArray := prog_4_method_13_code
def yX2_left : MethodName := ⟨RX2, "left", "()I"⟩
abbrev cX2_tellDay : ByteArray := prog_4_method_14_code
def yX2_tellDay : MethodName := ⟨RX2, "tellDay", "()V"⟩
def RX3 : String := "HornBridge$Keyword"
def TX3 : u_T := fun k => match k with
  | _ => ("", "", "", false)
def tyX3 : Nat → FieldType := fun k => match k with
  | _ => .int
abbrev wsX30 : List Cond := u_ws RX3 TX3 0
theorem nmX3 : ∀ a, a < 0 → ∀ b, b < 0 → a ≠ b → (TX3 a).2.1 ≠ (TX3 b).2.1 := by decide +kernel
theorem tyX3_ok : ∀ k, k < 0 → parseFieldDescriptor (TX3 k).2.2.1 = some (tyX3 k) := by decide +kernel
def RX4 : String := "HornBridge$Lane"
def TX4 : u_T := fun k => match k with
  | 0 => ("HornBridge$Lane", "many", "I", false)
  | 1 => ("HornBridge$Lane", "who", "[I", true)
  | 2 => ("HornBridge$Lane", "at", "[I", true)
  | 3 => ("HornBridge$Lane", "takes", "[I", true)
  | 4 => ("HornBridge$Lane", "costs", "[I", true)
  | _ => ("HornBridge$Lane", "sail", "[Z", true)
def tyX4 : Nat → FieldType := fun k => match k with
  | 0 => .int
  | 1 => .array .int
  | 2 => .array .int
  | 3 => .array .int
  | 4 => .array .int
  | _ => .array .boolean
abbrev wsX40 : List Cond := u_ws RX4 TX4 6
theorem nmX4 : ∀ a, a < 6 → ∀ b, b < 6 → a ≠ b → (TX4 a).2.1 ≠ (TX4 b).2.1 := by decide +kernel
theorem tyX4_ok : ∀ k, k < 6 → parseFieldDescriptor (TX4 k).2.2.1 = some (tyX4 k) := by decide +kernel
abbrev cX4_init : ByteArray := prog_6_method_1_code
def yX4_init : MethodName := ⟨RX4, "<init>", "()V"⟩
abbrev cX4_clear : ByteArray := prog_6_method_2_code
def yX4_clear : MethodName := ⟨RX4, "clear", "()V"⟩
abbrev cX4_join : ByteArray := prog_6_method_3_code
def yX4_join : MethodName := ⟨RX4, "join", "(LHornBridge$Lane;II)V"⟩
abbrev cX4_put : ByteArray := prog_6_method_4_code
def yX4_put : MethodName := ⟨RX4, "put", "(IIIIIZ)V"⟩
def RX5 : String := "HornBridge$River"
def TX5 : u_T := fun k => match k with
  | 0 => ("HornBridge$River", "ports", "I", false)
  | 1 => ("HornBridge$River", "blasts", "[J", true)
  | 2 => ("HornBridge$River", "sounds", "[J", true)
  | 3 => ("HornBridge$River", "turns", "I", false)
  | 4 => ("HornBridge$River", "frost", "I", false)
  | 5 => ("HornBridge$River", "frostFrom", "I", false)
  | 6 => ("HornBridge$River", "echo", "I", false)
  | 7 => ("HornBridge$River", "ships", "LHornBridge$Lane;", true)
  | 8 => ("HornBridge$River", "shipPorts", "[I", true)
  | _ => ("HornBridge$River", "carts", "LHornBridge$Lane;", true)
def tyX5 : Nat → FieldType := fun k => match k with
  | 0 => .int
  | 1 => .array .long
  | 2 => .array .long
  | 3 => .int
  | 4 => .int
  | 5 => .int
  | 6 => .int
  | 7 => .object "HornBridge$Lane"
  | 8 => .array .int
  | _ => .object "HornBridge$Lane"
abbrev wsX50 : List Cond := u_ws RX5 TX5 10
theorem nmX5 : ∀ a, a < 10 → ∀ b, b < 10 → a ≠ b → (TX5 a).2.1 ≠ (TX5 b).2.1 := by decide +kernel
theorem tyX5_ok : ∀ k, k < 10 → parseFieldDescriptor (TX5 k).2.2.1 = some (tyX5 k) := by decide +kernel
abbrev cX5_init : ByteArray := prog_7_method_1_code
def yX5_init : MethodName := ⟨RX5, "<init>", "()V"⟩
abbrev cX5_turnLength : ByteArray := prog_7_method_2_code
def yX5_turnLength : MethodName := ⟨RX5, "turnLength", "(II)I"⟩
abbrev cX5_soundOf : ByteArray := prog_7_method_3_code
def yX5_soundOf : MethodName := ⟨RX5, "soundOf", "(J)J"⟩
abbrev cX5_withEcho : ByteArray := prog_7_method_4_code
def yX5_withEcho : MethodName := ⟨RX5, "withEcho", "(JI)J"⟩
abbrev cX5_heardOf : ByteArray := prog_7_method_5_code
def yX5_heardOf : MethodName := ⟨RX5, "heardOf", "(I)J"⟩
abbrev cX5_bothHeard : ByteArray := prog_7_method_6_code
def yX5_bothHeard : MethodName := ⟨RX5, "bothHeard", "(III)J"⟩
abbrev cX5_leastBeats : ByteArray := prog_7_method_7_code
def yX5_leastBeats : MethodName := ⟨RX5, "leastBeats", "(II)I"⟩
abbrev cX5_countReadings : ByteArray := prog_7_method_8_code
def yX5_countReadings : MethodName := ⟨RX5, "countReadings", "(JI)I"⟩
abbrev cX5_countBeats : ByteArray := prog_7_method_9_code
def yX5_countBeats : MethodName := ⟨RX5, "countBeats", "(JII)I"⟩
abbrev cX5_couplesAlike : ByteArray := prog_7_method_10_code
def yX5_couplesAlike : MethodName := ⟨RX5, "couplesAlike", "(I)I"⟩
def RX6 : String := "HornBridge$RiverReader"
def TX6 : u_T := fun k => match k with
  | 0 => ("HornBridge$RiverReader", "tokens", "LHornBridge$Tokens;", true)
  | 1 => ("HornBridge$RiverReader", "river", "LHornBridge$River;", true)
  | 2 => ("HornBridge$RiverReader", "portNames", "[J", true)
  | 3 => ("HornBridge$RiverReader", "names", "[J", true)
  | 4 => ("HornBridge$RiverReader", "manyNames", "I", false)
  | 5 => ("HornBridge$RiverReader", "turnsTold", "Z", false)
  | 6 => ("HornBridge$RiverReader", "frostTold", "Z", false)
  | _ => ("HornBridge$RiverReader", "echoTold", "Z", false)
def tyX6 : Nat → FieldType := fun k => match k with
  | 0 => .object "HornBridge$Tokens"
  | 1 => .object "HornBridge$River"
  | 2 => .array .long
  | 3 => .array .long
  | 4 => .int
  | 5 => .boolean
  | 6 => .boolean
  | _ => .boolean
abbrev wsX60 : List Cond := u_ws RX6 TX6 8
theorem nmX6 : ∀ a, a < 8 → ∀ b, b < 8 → a ≠ b → (TX6 a).2.1 ≠ (TX6 b).2.1 := by decide +kernel
theorem tyX6_ok : ∀ k, k < 8 → parseFieldDescriptor (TX6 k).2.2.1 = some (tyX6 k) := by decide +kernel
abbrev cX6_init : ByteArray := prog_8_method_1_code
def yX6_init : MethodName := ⟨RX6, "<init>", "(LHornBridge$Tokens;)V"⟩
abbrev cX6_readAll : ByteArray := prog_8_method_2_code
def yX6_readAll : MethodName := ⟨RX6, "readAll", "()Z"⟩
abbrev cX6_readPort : ByteArray := prog_8_method_3_code
def yX6_readPort : MethodName := ⟨RX6, "readPort", "()Z"⟩
abbrev cX6_readTurns : ByteArray := prog_8_method_4_code
def yX6_readTurns : MethodName := ⟨RX6, "readTurns", "()Z"⟩
abbrev cX6_readFrost : ByteArray := prog_8_method_5_code
def yX6_readFrost : MethodName := ⟨RX6, "readFrost", "()Z"⟩
abbrev cX6_readEcho : ByteArray := prog_8_method_6_code
def yX6_readEcho : MethodName := ⟨RX6, "readEcho", "()Z"⟩
abbrev cX6_readShip : ByteArray := prog_8_method_7_code
def yX6_readShip : MethodName := ⟨RX6, "readShip", "()Z"⟩
abbrev cX6_readCart : ByteArray := prog_8_method_8_code
def yX6_readCart : MethodName := ⟨RX6, "readCart", "()Z"⟩
abbrev cX6_readComing : ByteArray := prog_8_method_9_code
def yX6_readComing : MethodName := ⟨RX6, "readComing", "(LHornBridge$Lane;)Z"⟩
abbrev cX6_takeNewName : ByteArray := prog_8_method_10_code
def yX6_takeNewName : MethodName := ⟨RX6, "takeNewName", "()Z"⟩
abbrev cX6_portNamed : ByteArray := prog_8_method_11_code
def yX6_portNamed : MethodName := ⟨RX6, "portNamed", "(J)I"⟩
def RX7 : String := "HornBridge$Rules"
def TX7 : u_T := fun k => match k with
  | 0 => ("HornBridge$Rules", "many", "I", false)
  | 1 => ("HornBridge$Rules", "acts", "[I", true)
  | 2 => ("HornBridge$Rules", "ends", "[I", true)
  | 3 => ("HornBridge$Rules", "steps", "I", false)
  | 4 => ("HornBridge$Rules", "step", "[I", true)
  | 5 => ("HornBridge$Rules", "fact", "[I", true)
  | _ => ("HornBridge$Rules", "number", "[I", true)
def tyX7 : Nat → FieldType := fun k => match k with
  | 0 => .int
  | 1 => .array .int
  | 2 => .array .int
  | 3 => .int
  | 4 => .array .int
  | 5 => .array .int
  | _ => .array .int
abbrev wsX70 : List Cond := u_ws RX7 TX7 7
theorem nmX7 : ∀ a, a < 7 → ∀ b, b < 7 → a ≠ b → (TX7 a).2.1 ≠ (TX7 b).2.1 := by decide +kernel
theorem tyX7_ok : ∀ k, k < 7 → parseFieldDescriptor (TX7 k).2.2.1 = some (tyX7 k) := by decide +kernel
abbrev cX7_init : ByteArray := prog_9_method_1_code
def yX7_init : MethodName := ⟨RX7, "<init>", "(I)V"⟩
abbrev cX7_addStep : ByteArray := prog_9_method_2_code
def yX7_addStep : MethodName := ⟨RX7, "addStep", "(III)V"⟩
abbrev cX7_endRule : ByteArray := prog_9_method_3_code
def yX7_endRule : MethodName := ⟨RX7, "endRule", "(I)V"⟩
abbrev cX7_actBy : ByteArray := prog_9_method_4_code
def yX7_actBy : MethodName := ⟨RX7, "actBy", "([I)I"⟩
abbrev cX7_holds : ByteArray := prog_9_method_5_code
def yX7_holds : MethodName := ⟨RX7, "holds", "(II[I)Z"⟩
abbrev cX7_compares : ByteArray := prog_9_method_6_code
def yX7_compares : MethodName := ⟨RX7, "compares", "(I[I)Z"⟩
def RX8 : String := "HornBridge$RulesReader"
def TX8 : u_T := fun k => match k with
  | 0 => ("HornBridge$RulesReader", "tokens", "LHornBridge$Tokens;", true)
  | 1 => ("HornBridge$RulesReader", "rules", "LHornBridge$Rules;", true)
  | _ => ("HornBridge$RulesReader", "manyCases", "I", false)
def tyX8 : Nat → FieldType := fun k => match k with
  | 0 => .object "HornBridge$Tokens"
  | 1 => .object "HornBridge$Rules"
  | _ => .int
abbrev wsX80 : List Cond := u_ws RX8 TX8 3
theorem nmX8 : ∀ a, a < 3 → ∀ b, b < 3 → a ≠ b → (TX8 a).2.1 ≠ (TX8 b).2.1 := by decide +kernel
theorem tyX8_ok : ∀ k, k < 3 → parseFieldDescriptor (TX8 k).2.2.1 = some (tyX8 k) := by decide +kernel
abbrev cX8_init : ByteArray := prog_10_method_1_code
def yX8_init : MethodName := ⟨RX8, "<init>", "(LHornBridge$Tokens;LHornBridge$Rules;)V"⟩
abbrev cX8_readAll : ByteArray := prog_10_method_2_code
def yX8_readAll : MethodName := ⟨RX8, "readAll", "()Z"⟩
abbrev cX8_readRule : ByteArray := prog_10_method_3_code
def yX8_readRule : MethodName := ⟨RX8, "readRule", "()Z"⟩
abbrev cX8_actTold : ByteArray := prog_10_method_4_code
def yX8_actTold : MethodName := ⟨RX8, "actTold", "()I"⟩
abbrev cX8_readEither : ByteArray := prog_10_method_5_code
def yX8_readEither : MethodName := ⟨RX8, "readEither", "(I)Z"⟩
abbrev cX8_readBoth : ByteArray := prog_10_method_6_code
def yX8_readBoth : MethodName := ⟨RX8, "readBoth", "(I)Z"⟩
abbrev cX8_readOne : ByteArray := prog_10_method_7_code
def yX8_readOne : MethodName := ⟨RX8, "readOne", "(I)Z"⟩
abbrev cX8_readNested : ByteArray := prog_10_method_8_code
def yX8_readNested : MethodName := ⟨RX8, "readNested", "(I)Z"⟩
abbrev cX8_factTold : ByteArray := prog_10_method_9_code
def yX8_factTold : MethodName := ⟨RX8, "factTold", "()I"⟩
abbrev cX8_readCase : ByteArray := prog_10_method_10_code
def yX8_readCase : MethodName := ⟨RX8, "readCase", "(I)Z"⟩
abbrev cX8_comparesTold : ByteArray := prog_10_method_11_code
def yX8_comparesTold : MethodName := ⟨RX8, "comparesTold", "()I"⟩
def RX9 : String := "HornBridge$Tokens"
def TX9 : u_T := fun k => match k with
  | 0 => ("HornBridge$Tokens", "text", "[B", true)
  | 1 => ("HornBridge$Tokens", "length", "I", true)
  | 2 => ("HornBridge$Tokens", "next", "I", false)
  | 3 => ("HornBridge$Tokens", "kind", "I", false)
  | 4 => ("HornBridge$Tokens", "place", "I", false)
  | 5 => ("HornBridge$Tokens", "size", "I", false)
  | 6 => ("HornBridge$Tokens", "letters", "J", false)
  | 7 => ("HornBridge$Tokens", "keyword", "LHornBridge$Keyword;", false)
  | 8 => ("HornBridge$Tokens", "number", "I", false)
  | 9 => ("HornBridge$Tokens", "sign", "I", false)
  | 10 => ("HornBridge$Tokens", "fault", "I", false)
  | _ => ("HornBridge$Tokens", "faultPlace", "I", false)
def tyX9 : Nat → FieldType := fun k => match k with
  | 0 => .array .byte
  | 1 => .int
  | 2 => .int
  | 3 => .int
  | 4 => .int
  | 5 => .int
  | 6 => .long
  | 7 => .object "HornBridge$Keyword"
  | 8 => .int
  | 9 => .int
  | 10 => .int
  | _ => .int
abbrev wsX90 : List Cond := u_ws RX9 TX9 12
theorem nmX9 : ∀ a, a < 12 → ∀ b, b < 12 → a ≠ b → (TX9 a).2.1 ≠ (TX9 b).2.1 := by decide +kernel
theorem tyX9_ok : ∀ k, k < 12 → parseFieldDescriptor (TX9 k).2.2.1 = some (tyX9 k) := by decide +kernel
abbrev cX9_init : ByteArray := prog_11_method_1_code
def yX9_init : MethodName := ⟨RX9, "<init>", "([BI)V"⟩
abbrev cX9_step : ByteArray := prog_11_method_2_code
def yX9_step : MethodName := ⟨RX9, "step", "()V"⟩
abbrev cX9_stepWord : ByteArray := prog_11_method_3_code
def yX9_stepWord : MethodName := ⟨RX9, "stepWord", "()V"⟩
abbrev cX9_stepNumber : ByteArray := prog_11_method_4_code
def yX9_stepNumber : MethodName := ⟨RX9, "stepNumber", "()V"⟩
abbrev cX9_isSign : ByteArray := prog_11_method_5_code
def yX9_isSign : MethodName := ⟨RX9, "isSign", "(B)Z"⟩
abbrev cX9_refuseToken : ByteArray := prog_11_method_6_code
def yX9_refuseToken : MethodName := ⟨RX9, "refuseToken", "(I)Z"⟩
abbrev cX9_isName : ByteArray := prog_11_method_7_code
def yX9_isName : MethodName := ⟨RX9, "isName", "()Z"⟩
abbrev cX9_isBlasts : ByteArray := prog_11_method_8_code
def yX9_isBlasts : MethodName := ⟨RX9, "isBlasts", "()Z"⟩
abbrev cX9_isSignOf : ByteArray := prog_11_method_9_code
def yX9_isSignOf : MethodName := ⟨RX9, "isSignOf", "(C)Z"⟩
abbrev cX9_takeKeyword : ByteArray := prog_11_method_10_code
def yX9_takeKeyword : MethodName := ⟨RX9, "takeKeyword", "(LHornBridge$Keyword;)Z"⟩
abbrev cX9_takeSign : ByteArray := prog_11_method_11_code
def yX9_takeSign : MethodName := ⟨RX9, "takeSign", "(C)Z"⟩
abbrev cX9_takeNumber : ByteArray := prog_11_method_12_code
def yX9_takeNumber : MethodName := ⟨RX9, "takeNumber", "(II)Z"⟩
def RX10 : String := "HornBridge$Tray"
def TX10 : u_T := fun k => match k with
  | 0 => ("HornBridge$Tray", "row", "[J", true)
  | 1 => ("HornBridge$Tray", "sort", "I", false)
  | _ => ("HornBridge$Tray", "many", "I", false)
def tyX10 : Nat → FieldType := fun k => match k with
  | 0 => .array .long
  | 1 => .int
  | _ => .int
abbrev wsX100 : List Cond := u_ws RX10 TX10 3
theorem nmX10 : ∀ a, a < 3 → ∀ b, b < 3 → a ≠ b → (TX10 a).2.1 ≠ (TX10 b).2.1 := by decide +kernel
theorem tyX10_ok : ∀ k, k < 3 → parseFieldDescriptor (TX10 k).2.2.1 = some (tyX10 k) := by decide +kernel
abbrev cX10_init : ByteArray := prog_12_method_1_code
def yX10_init : MethodName := ⟨RX10, "<init>", "()V"⟩
abbrev cX10_lay : ByteArray := prog_12_method_2_code
def yX10_lay : MethodName := ⟨RX10, "lay", "(II)V"⟩
abbrev cX10_isMissing : ByteArray := prog_12_method_3_code
def yX10_isMissing : MethodName := ⟨RX10, "isMissing", "()Z"⟩
abbrev cX10_hasStretch : ByteArray := prog_12_method_4_code
def yX10_hasStretch : MethodName := ⟨RX10, "hasStretch", "(II)Z"⟩
abbrev cX10_put : ByteArray := prog_12_method_5_code
def yX10_put : MethodName := ⟨RX10, "put", "(IJ)V"⟩
def RX11 : String := "HornBridge"
def TX11 : u_T := fun k => match k with
  | 0 => ("HornBridge", "status", "I", false)
  | 1 => ("HornBridge", "top", "J", false)
  | 2 => ("HornBridge", "bottom", "J", false)
  | 3 => ("HornBridge", "trays", "[LHornBridge$Tray;", true)
  | 4 => ("HornBridge", "tape", "[B", true)
  | 5 => ("HornBridge", "fed", "I", false)
  | 6 => ("HornBridge", "river", "LHornBridge$River;", false)
  | 7 => ("HornBridge", "rules", "LHornBridge$Rules;", false)
  | 8 => ("HornBridge", "faultKind", "I", false)
  | 9 => ("HornBridge", "faultPlace", "I", false)
  | 10 => ("HornBridge", "markedRivers", "[LHornBridge$River;", true)
  | 11 => ("HornBridge", "markedRules", "[LHornBridge$Rules;", true)
  | 12 => ("HornBridge", "marks", "I", false)
  | 13 => ("HornBridge", "readingsTold", "[I", true)
  | 14 => ("HornBridge", "manyReadings", "I", false)
  | 15 => ("HornBridge", "codeSearch", "LHornBridge$CodeSearch;", true)
  | 16 => ("HornBridge", "crossing", "LHornBridge$Crossing;", true)
  | _ => ("HornBridge", "keeper", "LHornBridge$Keeper;", true)
def tyX11 : Nat → FieldType := fun k => match k with
  | 0 => .int
  | 1 => .long
  | 2 => .long
  | 3 => .array (.object "HornBridge$Tray")
  | 4 => .array .byte
  | 5 => .int
  | 6 => .object "HornBridge$River"
  | 7 => .object "HornBridge$Rules"
  | 8 => .int
  | 9 => .int
  | 10 => .array (.object "HornBridge$River")
  | 11 => .array (.object "HornBridge$Rules")
  | 12 => .int
  | 13 => .array .int
  | 14 => .int
  | 15 => .object "HornBridge$CodeSearch"
  | 16 => .object "HornBridge$Crossing"
  | _ => .object "HornBridge$Keeper"
abbrev wsX110 : List Cond := u_ws RX11 TX11 18
theorem nmX11 : ∀ a, a < 18 → ∀ b, b < 18 → a ≠ b → (TX11 a).2.1 ≠ (TX11 b).2.1 := by decide +kernel
theorem tyX11_ok : ∀ k, k < 18 → parseFieldDescriptor (TX11 k).2.2.1 = some (tyX11 k) := by decide +kernel
abbrev cX11_init : ByteArray := prog_1_method_1_code
def yX11_init : MethodName := ⟨RX11, "<init>", "()V"⟩
abbrev cX11_status : ByteArray := prog_1_method_2_code
def yX11_status : MethodName := ⟨RX11, "status", "()I"⟩
abbrev cX11_top : ByteArray := prog_1_method_3_code
def yX11_top : MethodName := ⟨RX11, "top", "()J"⟩
abbrev cX11_bottom : ByteArray := prog_1_method_4_code
def yX11_bottom : MethodName := ⟨RX11, "bottom", "()J"⟩
abbrev cX11_tray : ByteArray := prog_1_method_5_code
def yX11_tray : MethodName := ⟨RX11, "tray", "(III)Z"⟩
abbrev cX11_write : ByteArray := prog_1_method_6_code
def yX11_write : MethodName := ⟨RX11, "write", "(IIJ)Z"⟩
abbrev cX11_read : ByteArray := prog_1_method_7_code
def yX11_read : MethodName := ⟨RX11, "read", "(II)J"⟩
abbrev cX11_pour : ByteArray := prog_1_method_8_code
def yX11_pour : MethodName := ⟨RX11, "pour", "(IIIII)Z"⟩
abbrev cX11_isTray : ByteArray := prog_1_method_9_code
def yX11_isTray : MethodName := ⟨RX11, "isTray", "(I)Z"⟩
abbrev cX11_wrongPlace : ByteArray := prog_1_method_10_code
def yX11_wrongPlace : MethodName := ⟨RX11, "wrongPlace", "(II)I"⟩
abbrev cX11_feed : ByteArray := prog_1_method_11_code
def yX11_feed : MethodName := ⟨RX11, "feed", "(IIIII)I"⟩
abbrev cX11_feedOne : ByteArray := prog_1_method_12_code
def yX11_feedOne : MethodName := ⟨RX11, "feedOne", "(I)V"⟩
abbrev cX11_river : ByteArray := prog_1_method_13_code
def yX11_river : MethodName := ⟨RX11, "river", "(I)I"⟩
abbrev cX11_rules : ByteArray := prog_1_method_14_code
def yX11_rules : MethodName := ⟨RX11, "rules", "(I)I"⟩
abbrev cX11_endText : ByteArray := prog_1_method_15_code
def yX11_endText : MethodName := ⟨RX11, "endText", "(LHornBridge$Tokens;)V"⟩
abbrev cX11_fault : ByteArray := prog_1_method_16_code
def yX11_fault : MethodName := ⟨RX11, "fault", "(I)I"⟩
abbrev cX11_told : ByteArray := prog_1_method_17_code
def yX11_told : MethodName := ⟨RX11, "told", "(I)I"⟩
abbrev cX11_ship : ByteArray := prog_1_method_18_code
def yX11_ship : MethodName := ⟨RX11, "ship", "(II)I"⟩
abbrev cX11_cart : ByteArray := prog_1_method_19_code
def yX11_cart : MethodName := ⟨RX11, "cart", "(II)I"⟩
abbrev cX11_nextShip : ByteArray := prog_1_method_20_code
def yX11_nextShip : MethodName := ⟨RX11, "nextShip", "(I)I"⟩
abbrev cX11_nextCart : ByteArray := prog_1_method_21_code
def yX11_nextCart : MethodName := ⟨RX11, "nextCart", "(I)I"⟩
abbrev cX11_isPort : ByteArray := prog_1_method_22_code
def yX11_isPort : MethodName := ⟨RX11, "isPort", "(I)Z"⟩
abbrev cX11_isShip : ByteArray := prog_1_method_23_code
def yX11_isShip : MethodName := ⟨RX11, "isShip", "(I)Z"⟩
abbrev cX11_isCart : ByteArray := prog_1_method_24_code
def yX11_isCart : MethodName := ⟨RX11, "isCart", "(I)Z"⟩
abbrev cX11_sound : ByteArray := prog_1_method_25_code
def yX11_sound : MethodName := ⟨RX11, "sound", "(I)J"⟩
abbrev cX11_heard : ByteArray := prog_1_method_26_code
def yX11_heard : MethodName := ⟨RX11, "heard", "(I)J"⟩
abbrev cX11_together : ByteArray := prog_1_method_27_code
def yX11_together : MethodName := ⟨RX11, "together", "(III)J"⟩
abbrev cX11_lasts : ByteArray := prog_1_method_28_code
def yX11_lasts : MethodName := ⟨RX11, "lasts", "(I)I"⟩
abbrev cX11_far : ByteArray := prog_1_method_29_code
def yX11_far : MethodName := ⟨RX11, "far", "(II)I"⟩
abbrev cX11_readings : ByteArray := prog_1_method_30_code
def yX11_readings : MethodName := ⟨RX11, "readings", "(J)I"⟩
abbrev cX11_addReading : ByteArray := prog_1_method_31_code
def yX11_addReading : MethodName := ⟨RX11, "addReading", "(III)V"⟩
abbrev cX11_reading : ByteArray := prog_1_method_32_code
def yX11_reading : MethodName := ⟨RX11, "reading", "(II)I"⟩
abbrev cX11_doubt : ByteArray := prog_1_method_33_code
def yX11_doubt : MethodName := ⟨RX11, "doubt", "(JI)Z"⟩
abbrev cX11_alike : ByteArray := prog_1_method_34_code
def yX11_alike : MethodName := ⟨RX11, "alike", "()I"⟩
abbrev cX11_code : ByteArray := prog_1_method_35_code
def yX11_code : MethodName := ⟨RX11, "code", "(III)I"⟩
abbrev cX11_codeAt : ByteArray := prog_1_method_36_code
def yX11_codeAt : MethodName := ⟨RX11, "codeAt", "(I)J"⟩
abbrev cX11_parts : ByteArray := prog_1_method_37_code
def yX11_parts : MethodName := ⟨RX11, "parts", "(J)I"⟩
abbrev cX11_clearBeats : ByteArray := prog_1_method_38_code
def yX11_clearBeats : MethodName := ⟨RX11, "clearBeats", "(II)I"⟩
abbrev cX11_clearEcho : ByteArray := prog_1_method_39_code
def yX11_clearEcho : MethodName := ⟨RX11, "clearEcho", "()I"⟩
abbrev cX11_silent : ByteArray := prog_1_method_40_code
def yX11_silent : MethodName := ⟨RX11, "silent", "()I"⟩
abbrev cX11_least : ByteArray := prog_1_method_41_code
def yX11_least : MethodName := ⟨RX11, "least", "()I"⟩
abbrev cX11_plan : ByteArray := prog_1_method_42_code
def yX11_plan : MethodName := ⟨RX11, "plan", "()I"⟩
abbrev cX11_planAt : ByteArray := prog_1_method_43_code
def yX11_planAt : MethodName := ⟨RX11, "planAt", "(II)I"⟩
abbrev cX11_worth : ByteArray := prog_1_method_44_code
def yX11_worth : MethodName := ⟨RX11, "worth", "(I)I"⟩
abbrev cX11_quicker : ByteArray := prog_1_method_45_code
def yX11_quicker : MethodName := ⟨RX11, "quicker", "(I)I"⟩
abbrev cX11_away : ByteArray := prog_1_method_46_code
def yX11_away : MethodName := ⟨RX11, "away", "()I"⟩
abbrev cX11_later : ByteArray := prog_1_method_47_code
def yX11_later : MethodName := ⟨RX11, "later", "(II)I"⟩
abbrev cX11_slack : ByteArray := prog_1_method_48_code
def yX11_slack : MethodName := ⟨RX11, "slack", "(I)I"⟩
abbrev cX11_without : ByteArray := prog_1_method_49_code
def yX11_without : MethodName := ⟨RX11, "without", "(I)I"⟩
abbrev cX11_dearest : ByteArray := prog_1_method_50_code
def yX11_dearest : MethodName := ⟨RX11, "dearest", "()I"⟩
abbrev cX11_opened : ByteArray := prog_1_method_51_code
def yX11_opened : MethodName := ⟨RX11, "opened", "()I"⟩
abbrev cX11_busiest : ByteArray := prog_1_method_52_code
def yX11_busiest : MethodName := ⟨RX11, "busiest", "()I"⟩
abbrev cX11_leastAsTold : ByteArray := prog_1_method_53_code
def yX11_leastAsTold : MethodName := ⟨RX11, "leastAsTold", "()I"⟩
abbrev cX11_answerWaits : ByteArray := prog_1_method_54_code
def yX11_answerWaits : MethodName := ⟨RX11, "answerWaits", "(I)I"⟩
abbrev cX11_keep : ByteArray := prog_1_method_55_code
def yX11_keep : MethodName := ⟨RX11, "keep", "(I)I"⟩
abbrev cX11_kept : ByteArray := prog_1_method_56_code
def yX11_kept : MethodName := ⟨RX11, "kept", "(I)I"⟩
abbrev cX11_odds : ByteArray := prog_1_method_57_code
def yX11_odds : MethodName := ⟨RX11, "odds", "(II)Z"⟩
abbrev cX11_waits : ByteArray := prog_1_method_58_code
def yX11_waits : MethodName := ⟨RX11, "waits", "(II)I"⟩
abbrev cX11_wrongSeeds : ByteArray := prog_1_method_59_code
def yX11_wrongSeeds : MethodName := ⟨RX11, "wrongSeeds", "(II)I"⟩
abbrev cX11_mark : ByteArray := prog_1_method_60_code
def yX11_mark : MethodName := ⟨RX11, "mark", "()I"⟩
abbrev cX11_back : ByteArray := prog_1_method_61_code
def yX11_back : MethodName := ⟨RX11, "back", "()I"⟩
abbrev cX11_answer : ByteArray := prog_1_method_62_code
def yX11_answer : MethodName := ⟨RX11, "answer", "(I)I"⟩
abbrev cX11_answerLong : ByteArray := prog_1_method_63_code
def yX11_answerLong : MethodName := ⟨RX11, "answerLong", "(J)J"⟩
abbrev cX11_grant : ByteArray := prog_1_method_64_code
def yX11_grant : MethodName := ⟨RX11, "grant", "()Z"⟩
abbrev cX11_refuse : ByteArray := prog_1_method_65_code
def yX11_refuse : MethodName := ⟨RX11, "refuse", "(I)I"⟩
abbrev cX11_deny : ByteArray := prog_1_method_66_code
def yX11_deny : MethodName := ⟨RX11, "deny", "(I)Z"⟩
abbrev cX11_tellFraction : ByteArray := prog_1_method_67_code
def yX11_tellFraction : MethodName := ⟨RX11, "tellFraction", "(II)V"⟩
abbrev cX11_commonDivisor : ByteArray := prog_1_method_68_code
def yX11_commonDivisor : MethodName := ⟨RX11, "commonDivisor", "(II)I"⟩
def RX12 : String := "HornBridgeModel"
def TX12 : u_T := fun k => match k with
  | 0 => ("HornBridgeModel", "at", "[I", true)
  | 1 => ("HornBridgeModel", "names", "[J", true)
  | 2 => ("HornBridgeModel", "status", "I", false)
  | 3 => ("HornBridgeModel", "top", "J", false)
  | 4 => ("HornBridgeModel", "bottom", "J", false)
  | 5 => ("HornBridgeModel", "sort", "[I", true)
  | 6 => ("HornBridgeModel", "trayMany", "[I", true)
  | 7 => ("HornBridgeModel", "trays", "[J", true)
  | 8 => ("HornBridgeModel", "tape", "[B", true)
  | 9 => ("HornBridgeModel", "text", "[B", true)
  | 10 => ("HornBridgeModel", "taped", "I", false)
  | 11 => ("HornBridgeModel", "size", "I", false)
  | 12 => ("HornBridgeModel", "token", "I", false)
  | 13 => ("HornBridgeModel", "from", "I", false)
  | 14 => ("HornBridgeModel", "end", "I", false)
  | 15 => ("HornBridgeModel", "value", "I", false)
  | 16 => ("HornBridgeModel", "faultKind", "I", false)
  | 17 => ("HornBridgeModel", "faultPlace", "I", false)
  | 18 => ("HornBridgeModel", "faults", "I", false)
  | 19 => ("HornBridgeModel", "seen", "I", false)
  | 20 => ("HornBridgeModel", "told0", "I", false)
  | 21 => ("HornBridgeModel", "doing", "[I", true)
  | 22 => ("HornBridgeModel", "toDo", "I", false)
  | 23 => ("HornBridgeModel", "within", "I", false)
  | 24 => ("HornBridgeModel", "cases", "I", false)
  | 25 => ("HornBridgeModel", "asks", "I", false)
  | 26 => ("HornBridgeModel", "readOne", "[I", true)
  | 27 => ("HornBridgeModel", "readTwo", "[I", true)
  | 28 => ("HornBridgeModel", "readBeats", "[I", true)
  | 29 => ("HornBridgeModel", "readMany", "I", false)
  | 30 => ("HornBridgeModel", "latestMany", "I", false)
  | 31 => ("HornBridgeModel", "keptOne", "[I", true)
  | 32 => ("HornBridgeModel", "keptTwo", "[I", true)
  | 33 => ("HornBridgeModel", "keptBeats", "[I", true)
  | 34 => ("HornBridgeModel", "callHeard", "[J", true)
  | 35 => ("HornBridgeModel", "callName", "[J", true)
  | 36 => ("HornBridgeModel", "codeNames", "[J", true)
  | 37 => ("HornBridgeModel", "callSize", "[I", true)
  | 38 => ("HornBridgeModel", "row", "[I", true)
  | 39 => ("HornBridgeModel", "callMany", "I", false)
  | 40 => ("HornBridgeModel", "codeMany", "I", false)
  | 41 => ("HornBridgeModel", "comes", "[I", true)
  | 42 => ("HornBridgeModel", "shipOrder", "[I", true)
  | 43 => ("HornBridgeModel", "cartOrder", "[I", true)
  | 44 => ("HornBridgeModel", "ships", "I", false)
  | 45 => ("HornBridgeModel", "carts", "I", false)
  | 46 => ("HornBridgeModel", "cartless", "I", false)
  | 47 => ("HornBridgeModel", "left", "[I", true)
  | 48 => ("HornBridgeModel", "quickly", "I", false)
  | 49 => ("HornBridgeModel", "planWhat", "[I", true)
  | 50 => ("HornBridgeModel", "planMinute", "[I", true)
  | 51 => ("HornBridgeModel", "planWho", "[I", true)
  | 52 => ("HornBridgeModel", "toldWhat", "[I", true)
  | 53 => ("HornBridgeModel", "toldMinute", "[I", true)
  | 54 => ("HornBridgeModel", "toldWho", "[I", true)
  | 55 => ("HornBridgeModel", "planMany", "I", false)
  | 56 => ("HornBridgeModel", "toldMany", "I", false)
  | 57 => ("HornBridgeModel", "ends", "I", false)
  | 58 => ("HornBridgeModel", "drawn", "I", false)
  | 59 => ("HornBridgeModel", "minute", "I", false)
  | 60 => ("HornBridgeModel", "isOpen", "I", false)
  | 61 => ("HornBridgeModel", "turnsTill", "I", false)
  | 62 => ("HornBridgeModel", "passesTill", "I", false)
  | 63 => ("HornBridgeModel", "anew", "I", false)
  | 64 => ("HornBridgeModel", "nextS", "I", false)
  | 65 => ("HornBridgeModel", "nextC", "I", false)
  | 66 => ("HornBridgeModel", "ranWaits", "I", false)
  | 67 => ("HornBridgeModel", "ranStruck", "I", false)
  | 68 => ("HornBridgeModel", "ranTurns", "I", false)
  | 69 => ("HornBridgeModel", "ranOver", "I", false)
  | 70 => ("HornBridgeModel", "ranPassed", "I", false)
  | 71 => ("HornBridgeModel", "gone", "[Z", true)
  | 72 => ("HornBridgeModel", "answer", "[Z", true)
  | 73 => ("HornBridgeModel", "kept0", "[I", true)
  | 74 => ("HornBridgeModel", "isTold", "Z", false)
  | _ => ("HornBridgeModel", "marks", "I", false)
def tyX12 : Nat → FieldType := fun k => match k with
  | 0 => .array .int
  | 1 => .array .long
  | 2 => .int
  | 3 => .long
  | 4 => .long
  | 5 => .array .int
  | 6 => .array .int
  | 7 => .array .long
  | 8 => .array .byte
  | 9 => .array .byte
  | 10 => .int
  | 11 => .int
  | 12 => .int
  | 13 => .int
  | 14 => .int
  | 15 => .int
  | 16 => .int
  | 17 => .int
  | 18 => .int
  | 19 => .int
  | 20 => .int
  | 21 => .array .int
  | 22 => .int
  | 23 => .int
  | 24 => .int
  | 25 => .int
  | 26 => .array .int
  | 27 => .array .int
  | 28 => .array .int
  | 29 => .int
  | 30 => .int
  | 31 => .array .int
  | 32 => .array .int
  | 33 => .array .int
  | 34 => .array .long
  | 35 => .array .long
  | 36 => .array .long
  | 37 => .array .int
  | 38 => .array .int
  | 39 => .int
  | 40 => .int
  | 41 => .array .int
  | 42 => .array .int
  | 43 => .array .int
  | 44 => .int
  | 45 => .int
  | 46 => .int
  | 47 => .array .int
  | 48 => .int
  | 49 => .array .int
  | 50 => .array .int
  | 51 => .array .int
  | 52 => .array .int
  | 53 => .array .int
  | 54 => .array .int
  | 55 => .int
  | 56 => .int
  | 57 => .int
  | 58 => .int
  | 59 => .int
  | 60 => .int
  | 61 => .int
  | 62 => .int
  | 63 => .int
  | 64 => .int
  | 65 => .int
  | 66 => .int
  | 67 => .int
  | 68 => .int
  | 69 => .int
  | 70 => .int
  | 71 => .array .boolean
  | 72 => .array .boolean
  | 73 => .array .int
  | 74 => .boolean
  | _ => .int
abbrev wsX120 : List Cond := u_ws RX12 TX12 76
theorem nmX12 : ∀ a, a < 76 → ∀ b, b < 76 → a ≠ b → (TX12 a).2.1 ≠ (TX12 b).2.1 := by decide +kernel
theorem tyX12_ok : ∀ k, k < 76 → parseFieldDescriptor (TX12 k).2.2.1 = some (tyX12 k) := by decide +kernel
abbrev cX12_init : ByteArray := prog_14_method_1_code
def yX12_init : MethodName := ⟨RX12, "<init>", "()V"⟩
abbrev cX12_status : ByteArray := prog_14_method_2_code
def yX12_status : MethodName := ⟨RX12, "status", "()I"⟩
abbrev cX12_top : ByteArray := prog_14_method_3_code
def yX12_top : MethodName := ⟨RX12, "top", "()J"⟩
abbrev cX12_bottom : ByteArray := prog_14_method_4_code
def yX12_bottom : MethodName := ⟨RX12, "bottom", "()J"⟩
abbrev cX12_is : ByteArray := prog_14_method_5_code
def yX12_is : MethodName := ⟨RX12, "is", "(I)Z"⟩
abbrev cX12_refuse : ByteArray := prog_14_method_6_code
def yX12_refuse : MethodName := ⟨RX12, "refuse", "(I)I"⟩
abbrev cX12_gives : ByteArray := prog_14_method_7_code
def yX12_gives : MethodName := ⟨RX12, "gives", "(I)I"⟩
abbrev cX12_orNone : ByteArray := prog_14_method_8_code
def yX12_orNone : MethodName := ⟨RX12, "orNone", "(I)I"⟩
abbrev cX12_givesLong : ByteArray := prog_14_method_9_code
def yX12_givesLong : MethodName := ⟨RX12, "givesLong", "(J)J"⟩
abbrev cX12_tellsBy : ByteArray := prog_14_method_10_code
def yX12_tellsBy : MethodName := ⟨RX12, "tellsBy", "(JJ)Z"⟩
abbrev cX12_isTray : ByteArray := prog_14_method_11_code
def yX12_isTray : MethodName := ⟨RX12, "isTray", "(I)Z"⟩
abbrev cX12_cut : ByteArray := prog_14_method_12_code
def yX12_cut : MethodName := ⟨RX12, "cut", "(JI)J"⟩
abbrev cX12_tray : ByteArray := prog_14_method_13_code
def yX12_tray : MethodName := ⟨RX12, "tray", "(III)Z"⟩
abbrev cX12_wrongPlace : ByteArray := prog_14_method_14_code
def yX12_wrongPlace : MethodName := ⟨RX12, "wrongPlace", "(II)I"⟩
abbrev cX12_write : ByteArray := prog_14_method_15_code
def yX12_write : MethodName := ⟨RX12, "write", "(IIJ)Z"⟩
abbrev cX12_read : ByteArray := prog_14_method_16_code
def yX12_read : MethodName := ⟨RX12, "read", "(II)J"⟩
abbrev cX12_pour : ByteArray := prog_14_method_17_code
def yX12_pour : MethodName := ⟨RX12, "pour", "(IIIII)Z"⟩
abbrev cX12_isFrom : ByteArray := prog_14_method_18_code
def yX12_isFrom : MethodName := ⟨RX12, "isFrom", "(JJJ)Z"⟩
abbrev cX12_feed : ByteArray := prog_14_method_19_code
def yX12_feed : MethodName := ⟨RX12, "feed", "(IIIII)I"⟩
abbrev cX12_four : ByteArray := prog_14_method_20_code
def yX12_four : MethodName := ⟨RX12, "four", "(I)V"⟩
abbrev cX12_byteAt : ByteArray := prog_14_method_21_code
def yX12_byteAt : MethodName := ⟨RX12, "byteAt", "(I)I"⟩
abbrev cX12_isSmall : ByteArray := prog_14_method_22_code
def yX12_isSmall : MethodName := ⟨RX12, "isSmall", "(I)Z"⟩
abbrev cX12_isDigit : ByteArray := prog_14_method_23_code
def yX12_isDigit : MethodName := ⟨RX12, "isDigit", "(I)Z"⟩
abbrev cX12_ahead : ByteArray := prog_14_method_24_code
def yX12_ahead : MethodName := ⟨RX12, "ahead", "()V"⟩
abbrev cX12_isSign : ByteArray := prog_14_method_25_code
def yX12_isSign : MethodName := ⟨RX12, "isSign", "(I)Z"⟩
abbrev cX12_inWords : ByteArray := prog_14_method_26_code
def yX12_inWords : MethodName := ⟨RX12, "inWords", "(Ljava/lang/String;)I"⟩
abbrev cX12_fails : ByteArray := prog_14_method_27_code
def yX12_fails : MethodName := ⟨RX12, "fails", "(I)Z"⟩
abbrev cX12_begins : ByteArray := prog_14_method_28_code
def yX12_begins : MethodName := ⟨RX12, "begins", "(II)Z"⟩
abbrev cX12_wantSign : ByteArray := prog_14_method_29_code
def yX12_wantSign : MethodName := ⟨RX12, "wantSign", "(I)Z"⟩
abbrev cX12_wantWord : ByteArray := prog_14_method_30_code
def yX12_wantWord : MethodName := ⟨RX12, "wantWord", "(Ljava/lang/String;I)Z"⟩
abbrev cX12_number : ByteArray := prog_14_method_31_code
def yX12_number : MethodName := ⟨RX12, "number", "(III)Z"⟩
abbrev cX12_isName : ByteArray := prog_14_method_32_code
def yX12_isName : MethodName := ⟨RX12, "isName", "(Ljava/lang/String;)Z"⟩
abbrev cX12_nameHere : ByteArray := prog_14_method_33_code
def yX12_nameHere : MethodName := ⟨RX12, "nameHere", "()J"⟩
abbrev cX12_findHere : ByteArray := prog_14_method_34_code
def yX12_findHere : MethodName := ⟨RX12, "findHere", "(II)I"⟩
abbrev cX12_fault : ByteArray := prog_14_method_35_code
def yX12_fault : MethodName := ⟨RX12, "fault", "(I)I"⟩
abbrev cX12_taken : ByteArray := prog_14_method_36_code
def yX12_taken : MethodName := ⟨RX12, "taken", "(I)I"⟩
abbrev cX12_aNewName : ByteArray := prog_14_method_37_code
def yX12_aNewName : MethodName := ⟨RX12, "aNewName", "(I)Z"⟩
abbrev cX12_areBlasts : ByteArray := prog_14_method_38_code
def yX12_areBlasts : MethodName := ⟨RX12, "areBlasts", "()Z"⟩
abbrev cX12_aPort : ByteArray := prog_14_method_39_code
def yX12_aPort : MethodName := ⟨RX12, "aPort", "()Z"⟩
abbrev cX12_aShip : ByteArray := prog_14_method_40_code
def yX12_aShip : MethodName := ⟨RX12, "aShip", "()Z"⟩
abbrev cX12_passes : ByteArray := prog_14_method_41_code
def yX12_passes : MethodName := ⟨RX12, "passes", "(I)Z"⟩
abbrev cX12_aCart : ByteArray := prog_14_method_42_code
def yX12_aCart : MethodName := ⟨RX12, "aCart", "()Z"⟩
abbrev cX12_once : ByteArray := prog_14_method_43_code
def yX12_once : MethodName := ⟨RX12, "once", "(I)Z"⟩
abbrev cX12_riverPart : ByteArray := prog_14_method_44_code
def yX12_riverPart : MethodName := ⟨RX12, "riverPart", "()Z"⟩
abbrev cX12_river : ByteArray := prog_14_method_45_code
def yX12_river : MethodName := ⟨RX12, "river", "(I)I"⟩
abbrev cX12_asksAlso : ByteArray := prog_14_method_46_code
def yX12_asksAlso : MethodName := ⟨RX12, "asksAlso", "(I)V"⟩
abbrev cX12_isDoing : ByteArray := prog_14_method_47_code
def yX12_isDoing : MethodName := ⟨RX12, "isDoing", "(I)Z"⟩
abbrev cX12_does : ByteArray := prog_14_method_48_code
def yX12_does : MethodName := ⟨RX12, "does", "(I)V"⟩
abbrev cX12_joins : ByteArray := prog_14_method_49_code
def yX12_joins : MethodName := ⟨RX12, "joins", "()V"⟩
abbrev cX12_turnsRound : ByteArray := prog_14_method_50_code
def yX12_turnsRound : MethodName := ⟨RX12, "turnsRound", "()V"⟩
abbrev cX12_isWithin : ByteArray := prog_14_method_51_code
def yX12_isWithin : MethodName := ⟨RX12, "isWithin", "()Z"⟩
abbrev cX12_aCase : ByteArray := prog_14_method_52_code
def yX12_aCase : MethodName := ⟨RX12, "aCase", "(I)Z"⟩
abbrev cX12_aOne : ByteArray := prog_14_method_53_code
def yX12_aOne : MethodName := ⟨RX12, "aOne", "()Z"⟩
abbrev cX12_conditions : ByteArray := prog_14_method_54_code
def yX12_conditions : MethodName := ⟨RX12, "conditions", "()Z"⟩
abbrev cX12_aRule : ByteArray := prog_14_method_55_code
def yX12_aRule : MethodName := ⟨RX12, "aRule", "()Z"⟩
abbrev cX12_rules : ByteArray := prog_14_method_56_code
def yX12_rules : MethodName := ⟨RX12, "rules", "(I)I"⟩
abbrev cX12_isPort : ByteArray := prog_14_method_57_code
def yX12_isPort : MethodName := ⟨RX12, "isPort", "(I)Z"⟩
abbrev cX12_isShip : ByteArray := prog_14_method_58_code
def yX12_isShip : MethodName := ⟨RX12, "isShip", "(I)Z"⟩
abbrev cX12_isCart : ByteArray := prog_14_method_59_code
def yX12_isCart : MethodName := ⟨RX12, "isCart", "(I)Z"⟩
abbrev cX12_told : ByteArray := prog_14_method_60_code
def yX12_told : MethodName := ⟨RX12, "told", "(I)I"⟩
abbrev cX12_ship : ByteArray := prog_14_method_61_code
def yX12_ship : MethodName := ⟨RX12, "ship", "(II)I"⟩
abbrev cX12_cart : ByteArray := prog_14_method_62_code
def yX12_cart : MethodName := ⟨RX12, "cart", "(II)I"⟩
abbrev cX12_beatsOf : ByteArray := prog_14_method_63_code
def yX12_beatsOf : MethodName := ⟨RX12, "beatsOf", "(II)J"⟩
abbrev cX12_soundOf : ByteArray := prog_14_method_64_code
def yX12_soundOf : MethodName := ⟨RX12, "soundOf", "(I)J"⟩
abbrev cX12_echoed : ByteArray := prog_14_method_65_code
def yX12_echoed : MethodName := ⟨RX12, "echoed", "(JI)J"⟩
abbrev cX12_heardOf : ByteArray := prog_14_method_66_code
def yX12_heardOf : MethodName := ⟨RX12, "heardOf", "(I)J"⟩
abbrev cX12_bits : ByteArray := prog_14_method_67_code
def yX12_bits : MethodName := ⟨RX12, "bits", "(J)I"⟩
abbrev cX12_sound : ByteArray := prog_14_method_68_code
def yX12_sound : MethodName := ⟨RX12, "sound", "(I)J"⟩
abbrev cX12_heard : ByteArray := prog_14_method_69_code
def yX12_heard : MethodName := ⟨RX12, "heard", "(I)J"⟩
abbrev cX12_together : ByteArray := prog_14_method_70_code
def yX12_together : MethodName := ⟨RX12, "together", "(III)J"⟩
abbrev cX12_lasts : ByteArray := prog_14_method_71_code
def yX12_lasts : MethodName := ⟨RX12, "lasts", "(I)I"⟩
abbrev cX12_far : ByteArray := prog_14_method_72_code
def yX12_far : MethodName := ⟨RX12, "far", "(II)I"⟩
abbrev cX12_reads : ByteArray := prog_14_method_73_code
def yX12_reads : MethodName := ⟨RX12, "reads", "(III)V"⟩
abbrev cX12_findsReadings : ByteArray := prog_14_method_74_code
def yX12_findsReadings : MethodName := ⟨RX12, "findsReadings", "(J)V"⟩
abbrev cX12_readings : ByteArray := prog_14_method_75_code
def yX12_readings : MethodName := ⟨RX12, "readings", "(J)I"⟩
abbrev cX12_reading : ByteArray := prog_14_method_76_code
def yX12_reading : MethodName := ⟨RX12, "reading", "(II)I"⟩
abbrev cX12_doubt : ByteArray := prog_14_method_77_code
def yX12_doubt : MethodName := ⟨RX12, "doubt", "(JI)Z"⟩
abbrev cX12_alike : ByteArray := prog_14_method_78_code
def yX12_alike : MethodName := ⟨RX12, "alike", "()I"⟩
abbrev cX12_parts : ByteArray := prog_14_method_79_code
def yX12_parts : MethodName := ⟨RX12, "parts", "(J)I"⟩
abbrev cX12_clearBeats : ByteArray := prog_14_method_80_code
def yX12_clearBeats : MethodName := ⟨RX12, "clearBeats", "(II)I"⟩
abbrev cX12_alikeBy : ByteArray := prog_14_method_81_code
def yX12_alikeBy : MethodName := ⟨RX12, "alikeBy", "(I)I"⟩
abbrev cX12_clearEcho : ByteArray := prog_14_method_82_code
def yX12_clearEcho : MethodName := ⟨RX12, "clearEcho", "()I"⟩
abbrev cX12_silent : ByteArray := prog_14_method_83_code
def yX12_silent : MethodName := ⟨RX12, "silent", "()I"⟩
abbrev cX12_laysCalls : ByteArray := prog_14_method_84_code
def yX12_laysCalls : MethodName := ⟨RX12, "laysCalls", "(II)V"⟩
abbrev cX12_isCode : ByteArray := prog_14_method_85_code
def yX12_isCode : MethodName := ⟨RX12, "isCode", "(I)Z"⟩
abbrev cX12_code : ByteArray := prog_14_method_86_code
def yX12_code : MethodName := ⟨RX12, "code", "(III)I"⟩
abbrev cX12_codeAt : ByteArray := prog_14_method_87_code
def yX12_codeAt : MethodName := ⟨RX12, "codeAt", "(I)J"⟩
abbrev cX12_tellsMinutes : ByteArray := prog_14_method_88_code
def yX12_tellsMinutes : MethodName := ⟨RX12, "tellsMinutes", "()V"⟩
abbrev cX12_orders : ByteArray := prog_14_method_89_code
def yX12_orders : MethodName := ⟨RX12, "orders", "(I)V"⟩
abbrev cX12_nextShip : ByteArray := prog_14_method_90_code
def yX12_nextShip : MethodName := ⟨RX12, "nextShip", "(I)I"⟩
abbrev cX12_nextCart : ByteArray := prog_14_method_91_code
def yX12_nextCart : MethodName := ⟨RX12, "nextCart", "(I)I"⟩
abbrev cX12_ofShip : ByteArray := prog_14_method_92_code
def yX12_ofShip : MethodName := ⟨RX12, "ofShip", "(II)I"⟩
abbrev cX12_ofCart : ByteArray := prog_14_method_93_code
def yX12_ofCart : MethodName := ⟨RX12, "ofCart", "(II)I"⟩
abbrev cX12_turnTime : ByteArray := prog_14_method_94_code
def yX12_turnTime : MethodName := ⟨RX12, "turnTime", "(II)I"⟩
abbrev cX12_stateOf : ByteArray := prog_14_method_95_code
def yX12_stateOf : MethodName := ⟨RX12, "stateOf", "(IIII)I"⟩
abbrev cX12_leftAt : ByteArray := prog_14_method_96_code
def yX12_leftAt : MethodName := ⟨RX12, "leftAt", "(IIII)I"⟩
abbrev cX12_mayShip : ByteArray := prog_14_method_97_code
def yX12_mayShip : MethodName := ⟨RX12, "mayShip", "(III)Z"⟩
abbrev cX12_mayCart : ByteArray := prog_14_method_98_code
def yX12_mayCart : MethodName := ⟨RX12, "mayCart", "(III)Z"⟩
abbrev cX12_byShip : ByteArray := prog_14_method_99_code
def yX12_byShip : MethodName := ⟨RX12, "byShip", "(III)I"⟩
abbrev cX12_byCart : ByteArray := prog_14_method_100_code
def yX12_byCart : MethodName := ⟨RX12, "byCart", "(III)I"⟩
abbrev cX12_reckons : ByteArray := prog_14_method_101_code
def yX12_reckons : MethodName := ⟨RX12, "reckons", "()I"⟩
abbrev cX12_leastBy : ByteArray := prog_14_method_102_code
def yX12_leastBy : MethodName := ⟨RX12, "leastBy", "(II)I"⟩
abbrev cX12_least : ByteArray := prog_14_method_103_code
def yX12_least : MethodName := ⟨RX12, "least", "()I"⟩
abbrev cX12_acts : ByteArray := prog_14_method_104_code
def yX12_acts : MethodName := ⟨RX12, "acts", "(III)V"⟩
abbrev cX12_plans : ByteArray := prog_14_method_105_code
def yX12_plans : MethodName := ⟨RX12, "plans", "()Z"⟩
abbrev cX12_plan : ByteArray := prog_14_method_106_code
def yX12_plan : MethodName := ⟨RX12, "plan", "()I"⟩
abbrev cX12_planAt : ByteArray := prog_14_method_107_code
def yX12_planAt : MethodName := ⟨RX12, "planAt", "(II)I"⟩
abbrev cX12_worth : ByteArray := prog_14_method_108_code
def yX12_worth : MethodName := ⟨RX12, "worth", "(I)I"⟩
abbrev cX12_quicker : ByteArray := prog_14_method_109_code
def yX12_quicker : MethodName := ⟨RX12, "quicker", "(I)I"⟩
abbrev cX12_away : ByteArray := prog_14_method_110_code
def yX12_away : MethodName := ⟨RX12, "away", "()I"⟩
abbrev cX12_later : ByteArray := prog_14_method_111_code
def yX12_later : MethodName := ⟨RX12, "later", "(II)I"⟩
abbrev cX12_laterBy : ByteArray := prog_14_method_112_code
def yX12_laterBy : MethodName := ⟨RX12, "laterBy", "(II)I"⟩
abbrev cX12_slack : ByteArray := prog_14_method_113_code
def yX12_slack : MethodName := ⟨RX12, "slack", "(I)I"⟩
abbrev cX12_without : ByteArray := prog_14_method_114_code
def yX12_without : MethodName := ⟨RX12, "without", "(I)I"⟩
abbrev cX12_cameBy : ByteArray := prog_14_method_115_code
def yX12_cameBy : MethodName := ⟨RX12, "cameBy", "(I)I"⟩
abbrev cX12_costsBy : ByteArray := prog_14_method_116_code
def yX12_costsBy : MethodName := ⟨RX12, "costsBy", "(I)I"⟩
abbrev cX12_dearest : ByteArray := prog_14_method_117_code
def yX12_dearest : MethodName := ⟨RX12, "dearest", "()I"⟩
abbrev cX12_opened : ByteArray := prog_14_method_118_code
def yX12_opened : MethodName := ⟨RX12, "opened", "()I"⟩
abbrev cX12_busiest : ByteArray := prog_14_method_119_code
def yX12_busiest : MethodName := ⟨RX12, "busiest", "()I"⟩
abbrev cX12_draw : ByteArray := prog_14_method_120_code
def yX12_draw : MethodName := ⟨RX12, "draw", "()I"⟩
abbrev cX12_waitingShips : ByteArray := prog_14_method_121_code
def yX12_waitingShips : MethodName := ⟨RX12, "waitingShips", "()I"⟩
abbrev cX12_waitingCarts : ByteArray := prog_14_method_122_code
def yX12_waitingCarts : MethodName := ⟨RX12, "waitingCarts", "()I"⟩
abbrev cX12_nextIn : ByteArray := prog_14_method_123_code
def yX12_nextIn : MethodName := ⟨RX12, "nextIn", "()I"⟩
abbrev cX12_asked : ByteArray := prog_14_method_124_code
def yX12_asked : MethodName := ⟨RX12, "asked", "(I)Z"⟩
abbrev cX12_holds : ByteArray := prog_14_method_125_code
def yX12_holds : MethodName := ⟨RX12, "holds", "(I)Z"⟩
abbrev cX12_actNow : ByteArray := prog_14_method_126_code
def yX12_actNow : MethodName := ⟨RX12, "actNow", "()I"⟩
abbrev cX12_passesOver : ByteArray := prog_14_method_127_code
def yX12_passesOver : MethodName := ⟨RX12, "passesOver", "()V"⟩
abbrev cX12_isBusy : ByteArray := prog_14_method_128_code
def yX12_isBusy : MethodName := ⟨RX12, "isBusy", "()Z"⟩
abbrev cX12_strikes : ByteArray := prog_14_method_129_code
def yX12_strikes : MethodName := ⟨RX12, "strikes", "()V"⟩
abbrev cX12_minuteGoes : ByteArray := prog_14_method_130_code
def yX12_minuteGoes : MethodName := ⟨RX12, "minuteGoes", "()V"⟩
abbrev cX12_leftOver : ByteArray := prog_14_method_131_code
def yX12_leftOver : MethodName := ⟨RX12, "leftOver", "()I"⟩
abbrev cX12_keeps : ByteArray := prog_14_method_132_code
def yX12_keeps : MethodName := ⟨RX12, "keeps", "(I)V"⟩
abbrev cX12_keep : ByteArray := prog_14_method_133_code
def yX12_keep : MethodName := ⟨RX12, "keep", "(I)I"⟩
abbrev cX12_kept : ByteArray := prog_14_method_134_code
def yX12_kept : MethodName := ⟨RX12, "kept", "(I)I"⟩
abbrev cX12_areSeeds : ByteArray := prog_14_method_135_code
def yX12_areSeeds : MethodName := ⟨RX12, "areSeeds", "(II)Z"⟩
abbrev cX12_odds : ByteArray := prog_14_method_136_code
def yX12_odds : MethodName := ⟨RX12, "odds", "(II)Z"⟩
abbrev cX12_waits : ByteArray := prog_14_method_137_code
def yX12_waits : MethodName := ⟨RX12, "waits", "(II)I"⟩
abbrev cX12_copies : ByteArray := prog_14_method_138_code
def yX12_copies : MethodName := ⟨RX12, "copies", "(II)V"⟩
abbrev cX12_mark : ByteArray := prog_14_method_139_code
def yX12_mark : MethodName := ⟨RX12, "mark", "()I"⟩
abbrev cX12_back : ByteArray := prog_14_method_140_code
def yX12_back : MethodName := ⟨RX12, "back", "()I"⟩
def RJx29ce0 : String := "java/lang/Enum"
def TJx29ce0 : u_T := fun k => match k with
  | _ => ("", "", "", false)
def tyJx29ce0 : Nat → FieldType := fun k => match k with
  | _ => .int
abbrev wsJx29ce00 : List Cond := u_ws RJx29ce0 TJx29ce0 0
theorem nmJx29ce0 : ∀ a, a < 0 → ∀ b, b < 0 → a ≠ b → (TJx29ce0 a).2.1 ≠ (TJx29ce0 b).2.1 := by decide +kernel
theorem tyJx29ce0_ok : ∀ k, k < 0 → parseFieldDescriptor (TJx29ce0 k).2.2.1 = some (tyJx29ce0 k) := by decide +kernel
def RJ6 : String := "java/lang/Integer"
def TJ6 : u_T := fun k => match k with
  | _ => ("", "", "", false)
def tyJ6 : Nat → FieldType := fun k => match k with
  | _ => .int
abbrev wsJ60 : List Cond := u_ws RJ6 TJ6 0
theorem nmJ6 : ∀ a, a < 0 → ∀ b, b < 0 → a ≠ b → (TJ6 a).2.1 ≠ (TJ6 b).2.1 := by decide +kernel
theorem tyJ6_ok : ∀ k, k < 0 → parseFieldDescriptor (TJ6 k).2.2.1 = some (tyJ6 k) := by decide +kernel
abbrev cJ6_numberOfLeadingZeros_0f7a4 : ByteArray := prog_16_method_47_code
def yJ6_numberOfLeadingZeros_0f7a4 : MethodName := ⟨RJ6, "numberOfLeadingZeros", "(I)I"⟩
abbrev cJ6_numberOfTrailingZeros_0f7a4 : ByteArray := prog_16_method_48_code
def yJ6_numberOfTrailingZeros_0f7a4 : MethodName := ⟨RJ6, "numberOfTrailingZeros", "(I)I"⟩
abbrev cJ6_bitCount_0f7a4 : ByteArray := prog_16_method_49_code
def yJ6_bitCount_0f7a4 : MethodName := ⟨RJ6, "bitCount", "(I)I"⟩
def RJ13 : String := "java/lang/Long"
def TJ13 : u_T := fun k => match k with
  | _ => ("", "", "", false)
def tyJ13 : Nat → FieldType := fun k => match k with
  | _ => .int
abbrev wsJ130 : List Cond := u_ws RJ13 TJ13 0
theorem nmJ13 : ∀ a, a < 0 → ∀ b, b < 0 → a ≠ b → (TJ13 a).2.1 ≠ (TJ13 b).2.1 := by decide +kernel
theorem tyJ13_ok : ∀ k, k < 0 → parseFieldDescriptor (TJ13 k).2.2.1 = some (tyJ13 k) := by decide +kernel
abbrev cJ13_numberOfLeadingZeros_95d88 : ByteArray := prog_17_method_48_code
def yJ13_numberOfLeadingZeros_95d88 : MethodName := ⟨RJ13, "numberOfLeadingZeros", "(J)I"⟩
abbrev cJ13_numberOfTrailingZeros_95d88 : ByteArray := prog_17_method_49_code
def yJ13_numberOfTrailingZeros_95d88 : MethodName := ⟨RJ13, "numberOfTrailingZeros", "(J)I"⟩
abbrev cJ13_bitCount_95d88 : ByteArray := prog_17_method_50_code
def yJ13_bitCount_95d88 : MethodName := ⟨RJ13, "bitCount", "(J)I"⟩
def RJ9 : String := "java/lang/Math"
def TJ9 : u_T := fun k => match k with
  | _ => ("", "", "", false)
def tyJ9 : Nat → FieldType := fun k => match k with
  | _ => .int
abbrev wsJ90 : List Cond := u_ws RJ9 TJ9 0
theorem nmJ9 : ∀ a, a < 0 → ∀ b, b < 0 → a ≠ b → (TJ9 a).2.1 ≠ (TJ9 b).2.1 := by decide +kernel
theorem tyJ9_ok : ∀ k, k < 0 → parseFieldDescriptor (TJ9 k).2.2.1 = some (tyJ9 k) := by decide +kernel
abbrev cJ9_max_7cf53 : ByteArray := prog_18_method_65_code
def yJ9_max_7cf53 : MethodName := ⟨RJ9, "max", "(II)I"⟩
abbrev cJ9_min_7cf53 : ByteArray := prog_18_method_69_code
def yJ9_min_7cf53 : MethodName := ⟨RJ9, "min", "(II)I"⟩
def RJ0 : String := "java/lang/String"
def TJ0 : u_T := fun k => match k with
  | _ => ("", "", "", false)
def tyJ0 : Nat → FieldType := fun k => match k with
  | _ => .int
abbrev wsJ00 : List Cond := u_ws RJ0 TJ0 0
theorem nmJ0 : ∀ a, a < 0 → ∀ b, b < 0 → a ≠ b → (TJ0 a).2.1 ≠ (TJ0 b).2.1 := by decide +kernel
theorem tyJ0_ok : ∀ k, k < 0 → parseFieldDescriptor (TJ0 k).2.2.1 = some (tyJ0 k) := by decide +kernel
abbrev cJ0_length_8abf5 : ByteArray := prog_19_method_54_code
def yJ0_length_8abf5 : MethodName := ⟨RJ0, "length", "()I"⟩
abbrev cJ0_charAt_5068e : ByteArray := prog_19_method_56_code
def yJ0_charAt_5068e : MethodName := ⟨RJ0, "charAt", "(I)C"⟩
abbrev cJ0_coder_7d493 : ByteArray := prog_19_method_152_code
def yJ0_coder_7d493 : MethodName := ⟨RJ0, "coder", "()B"⟩
abbrev cJ0_isLatin1_aae02 : ByteArray := prog_19_method_154_code
def yJ0_isLatin1_aae02 : MethodName := ⟨RJ0, "isLatin1", "()Z"⟩
abbrev cJ0_checkIndex_df160 : ByteArray := prog_19_method_155_code
def yJ0_checkIndex_df160 : MethodName := ⟨RJ0, "checkIndex", "(II)V"⟩
def RJ1 : String := "java/lang/StringLatin1"
def TJ1 : u_T := fun k => match k with
  | _ => ("", "", "", false)
def tyJ1 : Nat → FieldType := fun k => match k with
  | _ => .int
abbrev wsJ10 : List Cond := u_ws RJ1 TJ1 0
theorem nmJ1 : ∀ a, a < 0 → ∀ b, b < 0 → a ≠ b → (TJ1 a).2.1 ≠ (TJ1 b).2.1 := by decide +kernel
theorem tyJ1_ok : ∀ k, k < 0 → parseFieldDescriptor (TJ1 k).2.2.1 = some (tyJ1 k) := by decide +kernel
abbrev cJ1_charAt_3b067 : ByteArray := prog_20_method_2_code
def yJ1_charAt_3b067 : MethodName := ⟨RJ1, "charAt", "([BI)C"⟩
def RJ2 : String := "java/lang/StringUTF16"
def TJ2 : u_T := fun k => match k with
  | _ => ("", "", "", false)
def tyJ2 : Nat → FieldType := fun k => match k with
  | _ => .int
abbrev wsJ20 : List Cond := u_ws RJ2 TJ2 0
theorem nmJ2 : ∀ a, a < 0 → ∀ b, b < 0 → a ≠ b → (TJ2 a).2.1 ≠ (TJ2 b).2.1 := by decide +kernel
theorem tyJ2_ok : ∀ k, k < 0 → parseFieldDescriptor (TJ2 k).2.2.1 = some (tyJ2 k) := by decide +kernel
abbrev cJ2_getChar_3b067 : ByteArray := prog_21_method_5_code
def yJ2_getChar_3b067 : MethodName := ⟨RJ2, "getChar", "([BI)C"⟩
abbrev cJ2_length_9d52b : ByteArray := prog_21_method_6_code
def yJ2_length_9d52b : MethodName := ⟨RJ2, "length", "([B)I"⟩
abbrev cJ2_charAt_3b067 : ByteArray := prog_21_method_83_code
def yJ2_charAt_3b067 : MethodName := ⟨RJ2, "charAt", "([BI)C"⟩
abbrev cJ2_checkIndex_2214a : ByteArray := prog_21_method_91_code
def yJ2_checkIndex_2214a : MethodName := ⟨RJ2, "checkIndex", "(I[B)V"⟩
def RJ10 : String := "java/lang/System"
def TJ10 : u_T := fun k => match k with
  | _ => ("", "", "", false)
def tyJ10 : Nat → FieldType := fun k => match k with
  | _ => .int
abbrev wsJ100 : List Cond := u_ws RJ10 TJ10 0
theorem nmJ10 : ∀ a, a < 0 → ∀ b, b < 0 → a ≠ b → (TJ10 a).2.1 ≠ (TJ10 b).2.1 := by decide +kernel
theorem tyJ10_ok : ∀ k, k < 0 → parseFieldDescriptor (TJ10 k).2.2.1 = some (tyJ10 k) := by decide +kernel
def RJ3 : String := "jdk/internal/util/Preconditions"
def TJ3 : u_T := fun k => match k with
  | _ => ("", "", "", false)
def tyJ3 : Nat → FieldType := fun k => match k with
  | _ => .int
abbrev wsJ30 : List Cond := u_ws RJ3 TJ3 0
theorem nmJ3 : ∀ a, a < 0 → ∀ b, b < 0 → a ≠ b → (TJ3 a).2.1 ≠ (TJ3 b).2.1 := by decide +kernel
theorem tyJ3_ok : ∀ k, k < 0 → parseFieldDescriptor (TJ3 k).2.2.1 = some (tyJ3 k) := by decide +kernel
abbrev cJ3_checkIndex_8e157 : ByteArray := prog_23_method_11_code
def yJ3_checkIndex_8e157 : MethodName := ⟨RJ3, "checkIndex", "(IILjava/util/function/BiFunction;)I"⟩
def RL : String := "HornBridgeLaw"
abbrev cL_law : ByteArray := code
def yL_law : MethodName := ⟨RL, "law", "([I)Z"⟩
abbrev vwCl : List vw_C := [(RX0, TX0, 7), (RX1, TX1, 12), (RX2, TX2, 17), (RX4, TX4, 6), (RX5, TX5, 10), (RX6, TX6, 8), (RX7, TX7, 7), (RX8, TX8, 3), (RX9, TX9, 12), (RX10, TX10, 3), (RX11, TX11, 18), (RX12, TX12, 76)]
/-- the types of the fields of a class, in the order of the slots -/
def x_fty : Nat → List FieldType
  | 0 => [.array .long, .array .int, .array .long, .int, .array .int, .array .int, .int]
  | 1 => [.object "HornBridge$River", .int, .object "HornBridge$Lane", .object "HornBridge$Lane", .int, .int, .int, .array .int, .int, .array .int, .array .int, .array .int]
  | 2 => [.object "HornBridge$Lane", .object "HornBridge$Lane", .array .int, .array .int, .int, .int, .boolean, .int, .int, .int, .int, .int, .int, .int, .int, .boolean, .array .int]
  | 3 => [.int, .array .int, .array .int, .array .int, .array .int, .array .boolean]
  | 4 => [.int, .array .long, .array .long, .int, .int, .int, .int, .object "HornBridge$Lane", .array .int, .object "HornBridge$Lane"]
  | 5 => [.object "HornBridge$Tokens", .object "HornBridge$River", .array .long, .array .long, .int, .boolean, .boolean, .boolean]
  | 6 => [.int, .array .int, .array .int, .int, .array .int, .array .int, .array .int]
  | 7 => [.object "HornBridge$Tokens", .object "HornBridge$Rules", .int]
  | 8 => [.array .byte, .int, .int, .int, .int, .int, .long, .object "HornBridge$Keyword", .int, .int, .int, .int]
  | 9 => [.array .long, .int, .int]
  | 10 => [.int, .long, .long, .array (.object "HornBridge$Tray"), .array .byte, .int, .object "HornBridge$River", .object "HornBridge$Rules", .int, .int, .array (.object "HornBridge$River"), .array (.object "HornBridge$Rules"), .int, .array .int, .int, .object "HornBridge$CodeSearch", .object "HornBridge$Crossing", .object "HornBridge$Keeper"]
  | 11 => [.array .int, .array .long, .int, .long, .long, .array .int, .array .int, .array .long, .array .byte, .array .byte, .int, .int, .int, .int, .int, .int, .int, .int, .int, .int, .int, .array .int, .int, .int, .int, .int, .array .int, .array .int, .array .int, .int, .int, .array .int, .array .int, .array .int, .array .long, .array .long, .array .long, .array .int, .array .int, .int, .int, .array .int, .array .int, .array .int, .int, .int, .int, .array .int, .int, .array .int, .array .int, .array .int, .array .int, .array .int, .array .int, .int, .int, .int, .int, .int, .int, .int, .int, .int, .int, .int, .int, .int, .int, .int, .int, .array .boolean, .array .boolean, .array .int, .boolean, .int]
  | _ => []
/-! ===== END printed names ===== -/
end
section
/-! ===== the shadow machine: values, worlds, pure instructions ===== -/
abbrev x_Lo : Type := List (Nat × Value)
/-- a world: the cells' shapes (an object of a class, or an array of a type and a length), the ints, the longs, the references that they hold -/
abbrev x_G : Type := List (Nat ⊕ (Nat × Nat)) × (Nat → Nat → Int32) × (Nat → Nat → Int64) × (Nat → Nat → Value)
/-- a shadow value: a reference is a place of the world; 'retAddr i' is the i-th thing that stands outside of it -/
def x_cv (bs : Nat) (xa : Nat → Option Nat) : Value → Value
  | .ref k => .ref (bs + k)
  | .retAddr i => va_rf (xa i)
  | v => v
theorem x_cv_cat (bs : Nat) (xa : Nat → Option Nat) (v : Value) : (x_cv bs xa v).category = v.category := by
  cases v <;> try rfl
  rename_i i
  show (va_rf (xa i)).category = 1
  cases xa i <;> rfl
def x_cl (bs : Nat) (xa : Nat → Option Nat) (lo : x_Lo) : x_Lo := lo.map (fun q => (q.1, x_cv bs xa q.2))
/-- instructions of the stack alone -/
def x_alu : Instr → List Value → Option (List Value)
  | .aconst_null, st => some (.null :: st)
  | .iconst n, st => some (.int (Int32.ofInt n) :: st)
  | .bipush n, st => some (.int (Int8.ofInt n).toInt32 :: st)
  | .sipush n, st => some (.int (Int16.ofInt n).toInt32 :: st)
  | .lconst n, st => some (.long (Int64.ofNat (n : Nat)) :: st)
  | .iadd, .int y :: .int x :: r => some (.int (x + y) :: r)
  | .isub, .int y :: .int x :: r => some (.int (x - y) :: r)
  | .imul, .int y :: .int x :: r => some (.int (x * y) :: r)
  | .iand, .int y :: .int x :: r => some (.int (x &&& y) :: r)
  | .ior, .int y :: .int x :: r => some (.int (x ||| y) :: r)
  | .ixor, .int y :: .int x :: r => some (.int (x ^^^ y) :: r)
  | .idiv, .int y :: .int x :: r => if y = 0 then none else some (.int (x / y) :: r)
  | .irem, .int y :: .int x :: r => if y = 0 then none else some (.int (x - x / y * y) :: r)
  | .ishl, .int y :: .int x :: r => some (.int (x <<< (y &&& 31)) :: r)
  | .ishr, .int y :: .int x :: r => some (.int (x >>> (y &&& 31)) :: r)
  | .iushr, .int y :: .int x :: r => some (.int (x.toUInt32 >>> (y.toUInt32 &&& Int32.toUInt32 31)).toInt32 :: r)
  | .ladd, .long y :: .long x :: r => some (.long (x + y) :: r)
  | .lsub, .long y :: .long x :: r => some (.long (x - y) :: r)
  | .lmul, .long y :: .long x :: r => some (.long (x * y) :: r)
  | .land, .long y :: .long x :: r => some (.long (x &&& y) :: r)
  | .lor, .long y :: .long x :: r => some (.long (x ||| y) :: r)
  | .lxor, .long y :: .long x :: r => some (.long (x ^^^ y) :: r)
  | .ldiv, .long y :: .long x :: r => if y = 0 then none else some (.long (x / y) :: r)
  | .lrem, .long y :: .long x :: r => if y = 0 then none else some (.long (x - x / y * y) :: r)
  | .lshl, .int y :: .long x :: r => some (.long (x <<< (y.toInt64 &&& 63)) :: r)
  | .lshr, .int y :: .long x :: r => some (.long (x >>> (y.toInt64 &&& 63)) :: r)
  | .lushr, .int y :: .long x :: r => some (.long (x.toUInt64 >>> (y.toInt64.toUInt64 &&& Int64.toUInt64 63)).toInt64 :: r)
  | .lcmp, .long y :: .long x :: r => some (.int (lg_cmp x y) :: r)
  | .i2l, .int x :: r => some (.long x.toInt64 :: r)
  | .l2i, .long x :: r => some (.int x.toInt32 :: r)
  | .i2b, .int x :: r => some (.int x.toInt8.toInt32 :: r)
  | .i2s, .int x :: r => some (.int x.toInt16.toInt32 :: r)
  | .i2c, .int x :: r => some (.int (x.toUInt32 % 65536).toInt32 :: r)
  | .dup, v :: r => if v.category = 1 then some (v :: v :: r) else none
  | .pop, v :: r => if v.category = 1 then some r else none
  | .dup_x1, v :: w :: r => if v.category = 1 ∧ w.category = 1 then some (v :: w :: v :: r) else none
  | .dup2, v :: w :: r => if v.category = 1 ∧ w.category = 1 then some (v :: w :: v :: w :: r) else none
  | _, _ => none
/-- how long such an instruction is -/
def x_len : Instr → Nat
  | .bipush _ | .iload _ | .lload _ | .aload _ | .istore _ | .lstore _ | .astore _ | .ldc _ | .newarray _ => 2
  | .sipush _ | .iinc _ _ | .ifCond _ _ | .if_icmp _ _ | .if_acmp _ _ | .ifnull _ | .ifnonnull _ | .goto _ | .ldc_w _ | .ldc2_w _ | .getfield _ | .putfield _ | .getstatic _ | .new _ | .anewarray _ | .invokevirtual _ | .invokespecial _ | .invokestatic _ => 3
  | _ => 1
section XALU
variable {p : Program} {l : Launch} {e : Env} {R : Room} {s : State} {m : MethodId} {args : Array Value} {below : List Frame} {meth : Method} {c : Code} {H : Heap} {locs : List Loc} {cells slots : Nat} {Q : State → Prop}
variable {cc : ByteArray} {pc : Nat} {ls : Array Slot} {bs : Nat} {xa : Nat → Option Nat}
set_option maxHeartbeats 4000000 in
theorem x_alu_ok (hx : p.tables.exec = Jvm.exec) (hb : c.code = cc) {ins : Instr} {st st' : List Value} (hdg : decode cc pc = .ok (ins, x_len ins)) (h : x_alu ins st = some st')
    (k : W p l e R s m args below meth c H locs cells slots Q (F0 m (pc + x_len ins) ls (st'.map (x_cv bs xa)))) : W p l e R s m args below meth c H locs cells slots Q (F0 m pc ls (st.map (x_cv bs xa))) := by
  unfold x_alu at h
  split at h
  case _ => cases h; exact lv_null hx hb hdg k
  case _ => cases h; exact lv_iconst hx hb hdg rfl k
  case _ => cases h; exact lv_bipush hx hb hdg rfl k
  case _ => cases h; exact lv_sipush hx hb hdg rfl k
  case _ => cases h; exact lv_lconst hx hb hdg rfl k
  case _ => cases h; exact lv_iadd hx hb hdg k
  case _ => cases h; exact lv_isub hx hb hdg k
  case _ => cases h; exact lv_imul hx hb hdg k
  case _ => cases h; exact lv_iand hx hb hdg k
  case _ => cases h; exact lv_ior hx hb hdg k
  case _ => cases h; exact lv_ixor hx hb hdg k
  case _ => split at h; · cases h
            next hne => cases h; exact lv_idiv hx hb hdg hne k
  case _ => split at h; · cases h
            next hne => cases h; exact lv_irem hx hb hdg hne k
  case _ => cases h; exact lv_ishl hx hb hdg k
  case _ => cases h; exact lv_ishr hx hb hdg k
  case _ => cases h; exact lv_iushr hx hb hdg rfl k
  case _ => cases h; exact lv_ladd hx hb hdg k
  case _ => cases h; exact lv_lsub hx hb hdg k
  case _ => cases h; exact lv_lmul hx hb hdg k
  case _ => cases h; exact lv_land hx hb hdg k
  case _ => cases h; exact lv_lor hx hb hdg k
  case _ => cases h; exact lv_lxor hx hb hdg k
  case _ => split at h; · cases h
            next hne => cases h; exact lv_ldiv hx hb hdg hne k
  case _ => split at h; · cases h
            next hne => cases h; exact lv_lrem hx hb hdg hne k
  case _ => cases h; exact lv_lshl hx hb hdg rfl k
  case _ => cases h; exact lv_lshr hx hb hdg rfl k
  case _ => cases h; exact lv_lushr hx hb hdg rfl k
  case _ => cases h; exact W.lcmp hx hb hdg k
  case _ => cases h; exact lv_i2l hx hb hdg rfl k
  case _ => cases h; exact lv_l2i hx hb hdg rfl k
  case _ => cases h; exact lv_i2b hx hb hdg rfl k
  case _ => cases h; exact lv_i2s hx hb hdg rfl k
  case _ => cases h; exact lv_i2c hx hb hdg rfl k
  case _ => split at h
            · next hc => cases h; exact lv_dup hx hb hdg (by rw [x_cv_cat]; exact hc) k
            · cases h
  case _ => split at h
            · next hc => cases h; exact lv_pop hx hb hdg (by rw [x_cv_cat]; exact hc) k
            · cases h
  case _ => split at h
            · next hc => cases h; exact lv_dup_x1 hx hb hdg (by rw [x_cv_cat]; exact hc.1) (by rw [x_cv_cat]; exact hc.2) k
            · cases h
  case _ => split at h
            · next hc => cases h; exact lv_dup2_11 hx hb hdg (by rw [x_cv_cat]; exact hc.1) (by rw [x_cv_cat]; exact hc.2) k
            · cases h
  case _ => cases h
end XALU
end
section
/-! ===== the shadow machine: locals and branches ===== -/
def x_get : x_Lo → Nat → Option Value
  | [], _ => none
  | (j, v) :: r, i => if j = i then some v else x_get r i
def x_set1 (lo : x_Lo) (i : Nat) (v : Value) : x_Lo := (i, v) :: lo.filter (fun q => !(q.1 == i) && !(q.1 + 1 == i && q.2.category == 2))
def x_set2 (lo : x_Lo) (i : Nat) (v : Value) : x_Lo := (i, v) :: lo.filter (fun q => !(q.1 == i) && (!(q.1 == i + 1) && !(q.1 + 1 == i && q.2.category == 2)))
theorem x_get_mem : ∀ {lo : x_Lo} {i : Nat} {v : Value}, x_get lo i = some v → (i, v) ∈ lo
  | (j, w) :: r, i, v, h => by
    unfold x_get at h
    split at h
    next hj => subst hj; cases h; exact List.mem_cons_self
    next hj => exact List.mem_cons_of_mem _ (x_get_mem h)
theorem x_get_at {ls : Array Slot} {nL bs : Nat} {xa : Nat → Option Nat} {lo : x_Lo} {i : Nat} {v : Value} (hl : lv_has ls nL (x_cl bs xa lo)) (h : x_get lo i = some v) : ls[i]? = some (.val (x_cv bs xa v)) :=
  hl.2.2 (i, x_cv bs xa v) (List.mem_map.mpr ⟨(i, v), x_get_mem h, rfl⟩)
theorem x_cl_set1 (bs : Nat) (xa : Nat → Option Nat) (lo : x_Lo) (i : Nat) (v : Value) : (i, x_cv bs xa v) :: (x_cl bs xa lo).filter (fun q => !(q.1 == i) && !(q.1 + 1 == i && q.2.category == 2)) = x_cl bs xa (x_set1 lo i v) := by
  unfold x_cl x_set1
  rw [List.filter_map, List.map_cons]
  congr 2
  congr 1
  funext q
  simp [Function.comp, x_cv_cat]
theorem x_cl_set2 (bs : Nat) (xa : Nat → Option Nat) (lo : x_Lo) (i : Nat) (v : Value) : (i, x_cv bs xa v) :: (x_cl bs xa lo).filter (fun q => !(q.1 == i) && (!(q.1 == i + 1) && !(q.1 + 1 == i && q.2.category == 2))) = x_cl bs xa (x_set2 lo i v) := by
  unfold x_cl x_set2
  rw [List.filter_map, List.map_cons]
  congr 2
  congr 1
  funext q
  simp [Function.comp, x_cv_cat]
def x_isI : Value → Bool | .int _ => true | _ => false
def x_isL : Value → Bool | .long _ => true | _ => false
/-- references: places, null, the known things outside -/
def x_isR : Value → Bool | .ref _ => true | .null => true | .retAddr _ => true | _ => false
def x_ld (t : Value → Bool) (lo : x_Lo) (i : Nat) (st : List Value) : Option (x_Lo × List Value) := match x_get lo i with
  | some v => if t v = true then some (lo, v :: st) else none
  | none => none
def x_st (nL : Nat) (t : Value → Bool) (lo : x_Lo) (i : Nat) : List Value → Option (x_Lo × List Value)
  | v :: r => if t v = true ∧ i < nL then some (x_set1 lo i v, r) else none
  | [] => none
def x_st2 (nL : Nat) (lo : x_Lo) (i : Nat) : List Value → Option (x_Lo × List Value)
  | .long x :: r => if i + 1 < nL then some (x_set2 lo i (.long x), r) else none
  | _ => none
def x_loc (nL : Nat) : Instr → x_Lo → List Value → Option (x_Lo × List Value)
  | .iload_n k, lo, st => x_ld x_isI lo k st
  | .iload i, lo, st => x_ld x_isI lo i st
  | .lload_n k, lo, st => x_ld x_isL lo k st
  | .lload i, lo, st => x_ld x_isL lo i st
  | .aload_n k, lo, st => x_ld x_isR lo k st
  | .aload i, lo, st => x_ld x_isR lo i st
  | .istore_n k, lo, st => x_st nL x_isI lo k st
  | .istore i, lo, st => x_st nL x_isI lo i st
  | .astore_n k, lo, st => x_st nL x_isR lo k st
  | .astore i, lo, st => x_st nL x_isR lo i st
  | .lstore_n k, lo, st => x_st2 nL lo k st
  | .lstore i, lo, st => x_st2 nL lo i st
  | .iinc i n, lo, st => match x_get lo i with
    | some (.int x) => if i < nL then some (x_set1 lo i (.int (x + Int32.ofInt n)), st) else none
    | _ => none
  | _, _, _ => none
theorem x_ld_spec {t : Value → Bool} {lo lo' : x_Lo} {i : Nat} {st st' : List Value} (h : x_ld t lo i st = some (lo', st')) : ∃ v, x_get lo i = some v ∧ t v = true ∧ lo' = lo ∧ st' = v :: st := by
  unfold x_ld at h
  split at h
  next v hv =>
    split at h
    next ht => cases h; exact ⟨v, hv, ht, rfl, rfl⟩
    next => cases h
  next => cases h
theorem x_st_spec {nL : Nat} {t : Value → Bool} {lo lo' : x_Lo} {i : Nat} {st st' : List Value} (h : x_st nL t lo i st = some (lo', st')) : ∃ v, st = v :: st' ∧ t v = true ∧ i < nL ∧ lo' = x_set1 lo i v := by
  unfold x_st at h
  split at h
  next v r =>
    split at h
    next ht => cases h; exact ⟨v, rfl, ht.1, ht.2, rfl⟩
    next => cases h
  next => cases h
theorem x_st2_spec {nL : Nat} {lo lo' : x_Lo} {i : Nat} {st st' : List Value} (h : x_st2 nL lo i st = some (lo', st')) : ∃ x, st = .long x :: st' ∧ i + 1 < nL ∧ lo' = x_set2 lo i (.long x) := by
  unfold x_st2 at h
  split at h
  next x r =>
    split at h
    next ht => cases h; exact ⟨x, rfl, ht, rfl⟩
    next => cases h
  next => cases h
section XLOC
variable {p : Program} {l : Launch} {e : Env} {R : Room} {s : State} {m : MethodId} {args : Array Value} {below : List Frame} {meth : Method} {c : Code} {H : Heap} {locs : List Loc} {cells slots : Nat} {Q : State → Prop}
variable {cc : ByteArray} {pc : Nat} {ls : Array Slot} {bs : Nat} {xa : Nat → Option Nat} {rest : List Value}
theorem x_aload_n (hx : p.tables.exec = Jvm.exec) (hb : c.code = cc) {k : Fin 4} {v : Value} (hdg : decode cc pc = .ok (.aload_n k, 1)) (ht : x_isR v = true) (hl : ls[(k : Nat)]? = some (.val (x_cv bs xa v)))
    (kk : W p l e R s m args below meth c H locs cells slots Q (F0 m (pc + 1) ls (x_cv bs xa v :: rest))) : W p l e R s m args below meth c H locs cells slots Q (F0 m pc ls rest) := by
  cases v with
  | ref a => exact lv_aload_n hx hb hdg rfl hl kk
  | null => exact lv_aload_nN hx hb hdg rfl hl kk
  | retAddr i =>
    revert hl kk
    simp only [x_cv]
    cases xa i with
    | none => exact fun hl kk => lv_aload_nN hx hb hdg rfl hl kk
    | some a => exact fun hl kk => lv_aload_n hx hb hdg rfl hl kk
  | _ => cases ht
theorem x_aload (hx : p.tables.exec = Jvm.exec) (hb : c.code = cc) {k : Nat} {v : Value} (hdg : decode cc pc = .ok (.aload k, 2)) (ht : x_isR v = true) (hl : ls[k]? = some (.val (x_cv bs xa v)))
    (kk : W p l e R s m args below meth c H locs cells slots Q (F0 m (pc + 2) ls (x_cv bs xa v :: rest))) : W p l e R s m args below meth c H locs cells slots Q (F0 m pc ls rest) := by
  cases v with
  | ref a => exact lv_aload hx hb hdg hl kk
  | null => exact lv_aloadN hx hb hdg hl kk
  | retAddr i =>
    revert hl kk
    simp only [x_cv]
    cases xa i with
    | none => exact fun hl kk => lv_aloadN hx hb hdg hl kk
    | some a => exact fun hl kk => lv_aload hx hb hdg hl kk
  | _ => cases ht
theorem x_astore_n (hx : p.tables.exec = Jvm.exec) (hb : c.code = cc) {k : Fin 4} {nL : Nat} {lo : x_Lo} {v : Value} (hdg : decode cc pc = .ok (.astore_n k, 1)) (ht : x_isR v = true) (hl : lv_has ls nL (x_cl bs xa lo)) (hn : (k : Nat) < nL)
    (kk : ∀ ls' : Array Slot, lv_has ls' nL (x_cl bs xa (x_set1 lo k v)) → W p l e R s m args below meth c H locs cells slots Q (F0 m (pc + 1) ls' rest)) : W p l e R s m args below meth c H locs cells slots Q (F0 m pc ls (x_cv bs xa v :: rest)) := by
  have hs := x_cl_set1 bs xa lo k v
  cases v with
  | ref a => exact lv_astore_n hx hb hdg rfl hl hn hs kk
  | null => exact lv_astore_nN hx hb hdg rfl hl hn hs kk
  | retAddr i =>
    revert hs
    simp only [x_cv]
    cases xa i with
    | none => exact fun hs => lv_astore_nN hx hb hdg rfl hl hn hs kk
    | some a => exact fun hs => lv_astore_n hx hb hdg rfl hl hn hs kk
  | _ => cases ht
theorem x_astore (hx : p.tables.exec = Jvm.exec) (hb : c.code = cc) {k : Nat} {nL : Nat} {lo : x_Lo} {v : Value} (hdg : decode cc pc = .ok (.astore k, 2)) (ht : x_isR v = true) (hl : lv_has ls nL (x_cl bs xa lo)) (hn : k < nL)
    (kk : ∀ ls' : Array Slot, lv_has ls' nL (x_cl bs xa (x_set1 lo k v)) → W p l e R s m args below meth c H locs cells slots Q (F0 m (pc + 2) ls' rest)) : W p l e R s m args below meth c H locs cells slots Q (F0 m pc ls (x_cv bs xa v :: rest)) := by
  have hs := x_cl_set1 bs xa lo k v
  cases v with
  | ref a => exact lv_astore hx hb hdg hl hn hs kk
  | null => exact lv_astoreN hx hb hdg hl hn hs kk
  | retAddr i =>
    revert hs
    simp only [x_cv]
    cases xa i with
    | none => exact fun hs => lv_astoreN hx hb hdg hl hn hs kk
    | some a => exact fun hs => lv_astore hx hb hdg hl hn hs kk
  | _ => cases ht
theorem x_isI_spec {v : Value} (h : x_isI v = true) : ∃ x, v = .int x := by cases v <;> first | exact ⟨_, rfl⟩ | cases h
theorem x_isL_spec {v : Value} (h : x_isL v = true) : ∃ x, v = .long x := by cases v <;> first | exact ⟨_, rfl⟩ | cases h
set_option maxHeartbeats 4000000 in
theorem x_loc_ok (hx : p.tables.exec = Jvm.exec) (hb : c.code = cc) {ins : Instr} {nL : Nat} {lo lo' : x_Lo} {st st' : List Value} (hdg : decode cc pc = .ok (ins, x_len ins)) (h : x_loc nL ins lo st = some (lo', st')) (hl : lv_has ls nL (x_cl bs xa lo))
    (k : ∀ ls' : Array Slot, lv_has ls' nL (x_cl bs xa lo') → W p l e R s m args below meth c H locs cells slots Q (F0 m (pc + x_len ins) ls' (st'.map (x_cv bs xa)))) : W p l e R s m args below meth c H locs cells slots Q (F0 m pc ls (st.map (x_cv bs xa))) := by
  unfold x_loc at h
  split at h
  case _ => obtain ⟨v, h1, h2, rfl, rfl⟩ := x_ld_spec h; obtain ⟨x, rfl⟩ := x_isI_spec h2; exact lv_iload_n hx hb hdg rfl (x_get_at hl h1) (k _ hl)
  case _ => obtain ⟨v, h1, h2, rfl, rfl⟩ := x_ld_spec h; obtain ⟨x, rfl⟩ := x_isI_spec h2; exact lv_iload hx hb hdg (x_get_at hl h1) (k _ hl)
  case _ => obtain ⟨v, h1, h2, rfl, rfl⟩ := x_ld_spec h; obtain ⟨x, rfl⟩ := x_isL_spec h2; exact lv_lload_n hx hb hdg rfl (x_get_at hl h1) (k _ hl)
  case _ => obtain ⟨v, h1, h2, rfl, rfl⟩ := x_ld_spec h; obtain ⟨x, rfl⟩ := x_isL_spec h2; exact lv_lload hx hb hdg (x_get_at hl h1) (k _ hl)
  case _ => obtain ⟨v, h1, h2, rfl, rfl⟩ := x_ld_spec h; exact x_aload_n hx hb hdg h2 (x_get_at hl h1) (k _ hl)
  case _ => obtain ⟨v, h1, h2, rfl, rfl⟩ := x_ld_spec h; exact x_aload hx hb hdg h2 (x_get_at hl h1) (k _ hl)
  case _ => obtain ⟨v, rfl, h2, h3, rfl⟩ := x_st_spec h; obtain ⟨x, rfl⟩ := x_isI_spec h2; exact lv_istore_n hx hb hdg rfl hl h3 (x_cl_set1 bs xa _ _ (.int x)) k
  case _ => obtain ⟨v, rfl, h2, h3, rfl⟩ := x_st_spec h; obtain ⟨x, rfl⟩ := x_isI_spec h2; exact lv_istore hx hb hdg hl h3 (x_cl_set1 bs xa _ _ (.int x)) k
  case _ => obtain ⟨v, rfl, h2, h3, rfl⟩ := x_st_spec h; exact x_astore_n hx hb hdg h2 hl h3 k
  case _ => obtain ⟨v, rfl, h2, h3, rfl⟩ := x_st_spec h; exact x_astore hx hb hdg h2 hl h3 k
  case _ => obtain ⟨x, rfl, h3, rfl⟩ := x_st2_spec h; exact lv_lstore_n hx hb hdg rfl hl h3 (x_cl_set2 bs xa _ _ (.long x)) k
  case _ => obtain ⟨x, rfl, h3, rfl⟩ := x_st2_spec h; exact lv_lstore hx hb hdg hl h3 (x_cl_set2 bs xa _ _ (.long x)) k
  case _ =>
    split at h
    next x hg =>
      split at h
      next hn =>
        cases h
        have hm := x_get_mem hg
        obtain ⟨j, hj⟩ := List.getElem?_of_mem hm
        exact lv_iinc (k := j) hx hb hdg hl (by unfold x_cl; rw [List.getElem?_map, hj]; rfl) rfl hn (x_cl_set1 bs xa _ _ (.int (x + Int32.ofInt _))) k
      next => cases h
    next => cases h
  case _ => cases h
/-- what is known of the things outside: the first 40 are references below the world, all different -/
def x_XA (bs : Nat) (xa : Nat → Option Nat) : Prop := (∀ i, i < 40 → ∃ a, xa i = some a ∧ a < bs) ∧ ∀ i j, i < 40 → j < 40 → xa i = xa j → i = j
def x_known : Value → Bool | .ref _ => true | .null => true | .retAddr i => decide (i < 40) | _ => false
def x_ro (bs : Nat) (xa : Nat → Option Nat) : Value → Option Nat | .ref k => some (bs + k) | .retAddr i => xa i | _ => none
theorem x_ro_cv {bs : Nat} {xa : Nat → Option Nat} {v : Value} (h : x_known v = true) : x_cv bs xa v = va_rf (x_ro bs xa v) := by
  cases v <;> first | rfl | cases h
theorem x_ro_eq {bs : Nat} {xa : Nat → Option Nat} (hX : x_XA bs xa) {v w : Value} (h : x_known v = true) (h2 : x_known w = true) : x_ro bs xa v = x_ro bs xa w ↔ v = w := by
  constructor
  · intro he
    match v, w, h, h2, he with
    | .ref a, .ref b, _, _, he => rw [Nat.add_left_cancel (Option.some.inj he : bs + a = bs + b)]
    | .ref a, .null, _, _, he => cases he
    | .null, .ref a, _, _, he => cases he
    | .null, .null, _, _, _ => rfl
    | .ref a, .retAddr i, _, h2, he =>
      obtain ⟨q, h3, h4⟩ := hX.1 i (by simpa [x_known] using h2)
      simp only [x_ro, h3, Option.some.injEq] at he
      omega
    | .retAddr i, .ref a, h, _, he =>
      obtain ⟨q, h3, h4⟩ := hX.1 i (by simpa [x_known] using h)
      simp only [x_ro, h3, Option.some.injEq] at he
      omega
    | .null, .retAddr i, _, h2, he =>
      obtain ⟨q, h3, h4⟩ := hX.1 i (by simpa [x_known] using h2)
      simp [x_ro, h3] at he
    | .retAddr i, .null, h, _, he =>
      obtain ⟨q, h3, h4⟩ := hX.1 i (by simpa [x_known] using h)
      simp [x_ro, h3] at he
    | .retAddr i, .retAddr j, h, h2, he => rw [hX.2 i j (by simpa [x_known] using h) (by simpa [x_known] using h2) he]
  · intro he; rw [he]
/-- branches: 'a' is the target -/
def x_br (a pc : Nat) : Instr → List Value → Option (Nat × List Value)
  | .ifCond .eq _, .int x :: r => some (if x = 0 then a else pc + 3, r)
  | .ifCond .ne _, .int x :: r => some (if x = 0 then pc + 3 else a, r)
  | .ifCond .lt _, .int x :: r => some (if x < 0 then a else pc + 3, r)
  | .ifCond .ge _, .int x :: r => some (if 0 ≤ x then a else pc + 3, r)
  | .ifCond .gt _, .int x :: r => some (if 0 < x then a else pc + 3, r)
  | .ifCond .le _, .int x :: r => some (if x ≤ 0 then a else pc + 3, r)
  | .if_icmp .eq _, .int y :: .int x :: r => some (if x = y then a else pc + 3, r)
  | .if_icmp .ne _, .int y :: .int x :: r => some (if x = y then pc + 3 else a, r)
  | .if_icmp .lt _, .int y :: .int x :: r => some (if x < y then a else pc + 3, r)
  | .if_icmp .ge _, .int y :: .int x :: r => some (if y ≤ x then a else pc + 3, r)
  | .if_icmp .gt _, .int y :: .int x :: r => some (if y < x then a else pc + 3, r)
  | .if_icmp .le _, .int y :: .int x :: r => some (if x ≤ y then a else pc + 3, r)
  | .goto _, st => some (a, st)
  | .ifnull _, v :: r => if x_known v = true then some (if v = .null then a else pc + 3, r) else none
  | .ifnonnull _, v :: r => if x_known v = true then some (if v = .null then pc + 3 else a, r) else none
  | .if_acmp .eq _, w :: v :: r => if x_known v = true ∧ x_known w = true then some (if v = w then a else pc + 3, r) else none
  | .if_acmp .ne _, w :: v :: r => if x_known v = true ∧ x_known w = true then some (if v = w then pc + 3 else a, r) else none
  | .tableswitch d lo hi offs, .int x :: r => if x.toInt < lo ∨ hi < x.toInt then (if 0 ≤ (pc : Int) + d then some (((pc : Int) + d).toNat, r) else none) else match offs.toList[(x.toInt - lo).toNat]? with
    | some o => if 0 ≤ (pc : Int) + o then some (((pc : Int) + o).toNat, r) else none
    | none => none
  | .lookupswitch d ps, .int x :: r => if (ps.toList.zip (ps.toList.drop 1)).all (fun (a, next) => a.1 < next.1) = true ∧ 0 ≤ (pc : Int) + Op.lookupswitch.offset ps.toList d x.toInt then some (((pc : Int) + Op.lookupswitch.offset ps.toList d x.toInt).toNat, r) else none
  | _, _ => none
/-- the offset of a branch that has one -/
def x_off : Instr → Option Int
  | .ifCond _ o | .if_icmp _ o | .goto o | .ifnull o | .ifnonnull o | .if_acmp _ o => some o
  | _ => none
theorem x_if {A : Prop} [Decidable A] {a b : Nat} {P : Nat → Prop} (k : P (if A then a else b)) : (A → P a) ∧ (¬ A → P b) := by
  by_cases h : A
  · rw [if_pos h] at k; exact ⟨fun _ => k, fun n => absurd h n⟩
  · rw [if_neg h] at k; exact ⟨fun n => absurd n h, fun _ => k⟩
set_option maxHeartbeats 4000000 in
theorem x_br_ok (hx : p.tables.exec = Jvm.exec) (hb : c.code = cc) (hX : x_XA bs xa) {ins : Instr} {a len pc' : Nat} {st st' : List Value} (hdg : decode cc pc = .ok (ins, len)) (hlen : x_off ins ≠ none → len = 3) (hoff : ∀ o, x_off ins = some o → (pc : Int) + o = (a : Int)) (h : x_br a pc ins st = some (pc', st'))
    (k : W p l e R s m args below meth c H locs cells slots Q (F0 m pc' ls (st'.map (x_cv bs xa)))) : W p l e R s m args below meth c H locs cells slots Q (F0 m pc ls (st.map (x_cv bs xa))) := by
  unfold x_br at h
  split at h
  case _ => cases h; cases hlen (by simp [x_off]); have k := x_if (P := fun q => W p l e R s m args below meth c H locs cells slots Q (F0 m q ls _)) k; exact lv_if_eq hx hb hdg (hoff _ rfl) k.1 k.2
  case _ => cases h; cases hlen (by simp [x_off]); have k := x_if (P := fun q => W p l e R s m args below meth c H locs cells slots Q (F0 m q ls _)) k; exact lv_if_ne hx hb hdg (hoff _ rfl) k.2 k.1
  case _ => cases h; cases hlen (by simp [x_off]); have k := x_if (P := fun q => W p l e R s m args below meth c H locs cells slots Q (F0 m q ls _)) k; exact lv_if_lt hx hb hdg (hoff _ rfl) k.1 k.2
  case _ => cases h; cases hlen (by simp [x_off]); have k := x_if (P := fun q => W p l e R s m args below meth c H locs cells slots Q (F0 m q ls _)) k; exact lv_if_ge hx hb hdg (hoff _ rfl) k.1 k.2
  case _ => cases h; cases hlen (by simp [x_off]); have k := x_if (P := fun q => W p l e R s m args below meth c H locs cells slots Q (F0 m q ls _)) k; exact lv_if_gt hx hb hdg (hoff _ rfl) k.1 k.2
  case _ => cases h; cases hlen (by simp [x_off]); have k := x_if (P := fun q => W p l e R s m args below meth c H locs cells slots Q (F0 m q ls _)) k; exact lv_if_le hx hb hdg (hoff _ rfl) k.1 k.2
  case _ => cases h; cases hlen (by simp [x_off]); have k := x_if (P := fun q => W p l e R s m args below meth c H locs cells slots Q (F0 m q ls _)) k; exact lv_icmp_eq hx hb hdg (hoff _ rfl) k.1 k.2
  case _ => cases h; cases hlen (by simp [x_off]); have k := x_if (P := fun q => W p l e R s m args below meth c H locs cells slots Q (F0 m q ls _)) k; exact lv_icmp_ne hx hb hdg (hoff _ rfl) k.2 k.1
  case _ => cases h; cases hlen (by simp [x_off]); have k := x_if (P := fun q => W p l e R s m args below meth c H locs cells slots Q (F0 m q ls _)) k; exact lv_icmp_lt hx hb hdg (hoff _ rfl) k.1 k.2
  case _ => cases h; cases hlen (by simp [x_off]); have k := x_if (P := fun q => W p l e R s m args below meth c H locs cells slots Q (F0 m q ls _)) k; exact lv_icmp_ge hx hb hdg (hoff _ rfl) k.1 k.2
  case _ => cases h; cases hlen (by simp [x_off]); have k := x_if (P := fun q => W p l e R s m args below meth c H locs cells slots Q (F0 m q ls _)) k; exact lv_icmp_gt hx hb hdg (hoff _ rfl) k.1 k.2
  case _ => cases h; cases hlen (by simp [x_off]); have k := x_if (P := fun q => W p l e R s m args below meth c H locs cells slots Q (F0 m q ls _)) k; exact lv_icmp_le hx hb hdg (hoff _ rfl) k.1 k.2
  case _ => cases h; cases hlen (by simp [x_off]); exact lv_goto hx hb hdg (hoff _ rfl) k
  case _ o v r =>
    split at h
    next hk =>
      cases h; cases hlen (by simp [x_off])
      show W p l e R s m args below meth c H locs cells slots Q (F0 m pc ls (x_cv bs xa v :: _))
      cases v with
      | null => exact lv_ifnullN hx hb hdg (hoff _ rfl) k
      | ref q => exact lv_ifnull hx hb hdg (by rw [if_neg (by intro q; cases q)] at k; exact k)
      | retAddr i =>
        obtain ⟨q, h3, -⟩ := hX.1 i (by simpa [x_known] using hk)
        simp only [x_cv, h3, va_rf]
        exact lv_ifnull hx hb hdg (by rw [if_neg (by intro q; cases q)] at k; exact k)
      | _ => cases hk
    next => cases h
  case _ o v r =>
    split at h
    next hk =>
      cases h; cases hlen (by simp [x_off])
      show W p l e R s m args below meth c H locs cells slots Q (F0 m pc ls (x_cv bs xa v :: _))
      cases v with
      | null => exact lv_ifnonnullN hx hb hdg k
      | ref q => exact lv_ifnonnull hx hb hdg (hoff _ rfl) (by rw [if_neg (by intro q; cases q)] at k; exact k)
      | retAddr i =>
        obtain ⟨q, h3, -⟩ := hX.1 i (by simpa [x_known] using hk)
        simp only [x_cv, h3, va_rf]
        exact lv_ifnonnull hx hb hdg (hoff _ rfl) (by rw [if_neg (by intro q; cases q)] at k; exact k)
      | _ => cases hk
    next => cases h
  case _ o w v r =>
    split at h
    next hk =>
      cases h; cases hlen (by simp [x_off])
      have k := x_if (P := fun q => W p l e R s m args below meth c H locs cells slots Q (F0 m q ls _)) k
      show W p l e R s m args below meth c H locs cells slots Q (F0 m pc ls (x_cv bs xa w :: x_cv bs xa v :: _))
      rw [x_ro_cv hk.1, x_ro_cv hk.2]
      exact lv_acmp_eq hx hb hdg (hoff _ rfl) (fun q => k.1 ((x_ro_eq hX hk.1 hk.2).mp q)) (fun q => k.2 (fun z => q ((x_ro_eq hX hk.1 hk.2).mpr z)))
    next => cases h
  case _ o w v r =>
    split at h
    next hk =>
      cases h; cases hlen (by simp [x_off])
      have k := x_if (P := fun q => W p l e R s m args below meth c H locs cells slots Q (F0 m q ls _)) k
      show W p l e R s m args below meth c H locs cells slots Q (F0 m pc ls (x_cv bs xa w :: x_cv bs xa v :: _))
      rw [x_ro_cv hk.1, x_ro_cv hk.2]
      exact lv_acmp_ne hx hb hdg (hoff _ rfl) (fun q => k.2 (fun z => q ((x_ro_eq hX hk.1 hk.2).mpr z))) (fun q => k.1 ((x_ro_eq hX hk.1 hk.2).mp q))
    next => cases h
  case _ d lo hi offs x r =>
    split at h
    next hr =>
      split at h
      next h0 => cases h; exact lv_tableOut hx hb hdg hr (Int.toNat_of_nonneg h0).symm k
      next => cases h
    next hr =>
      split at h
      next o ho =>
        split at h
        next h0 => cases h; exact lv_tableIn hx hb hdg (fun q => hr (Or.inl q)) (fun q => hr (Or.inr q)) (by rw [← Array.getElem?_toList]; exact ho) (Int.toNat_of_nonneg h0).symm k
        next => cases h
      next => cases h
  case _ d ps x r =>
    split at h
    next h0 => cases h; exact lv_lookup hx hb hdg h0.1 rfl (Int.toNat_of_nonneg h0.2).symm k
    next => cases h
  case _ => cases h
end XLOC
end
section
/-! ===== the shadow machine: the heap ===== -/
def x_nr : Value → Value | .ref k => .ref k | .retAddr i => .retAddr i | _ => .null
theorem x_nr_isR {v : Value} (h : x_isR v = true) : x_nr v = v := by cases v <;> first | rfl | cases h
theorem x_nr_R (v : Value) : x_isR (x_nr v) = true := by cases v <;> rfl
theorem x_cv_R {bs : Nat} {xa : Nat → Option Nat} {v : Value} (h : x_isR v = true) : x_cv bs xa v = va_rf (x_ro bs xa v) := by
  cases v <;> first | rfl | cases h
def x_toI : Value → Int32 | .int x => x | _ => 0
def x_toL : Value → Int64 | .long x => x | _ => 0
/-- what a place holds at a slot, by the slot's type -/
def x_fv (G : x_G) (k j : Nat) : FieldType → Value
  | .long => .long (G.2.2.1 k j)
  | .object _ => x_nr (G.2.2.2 k j)
  | .array _ => x_nr (G.2.2.2 k j)
  | _ => .int (G.2.1 k j)
def x_up2 {α : Type} (f : Nat → Nat → α) (k j : Nat) (x : α) : Nat → Nat → α := fun a => if a = k then (fun b => if b = j then x else f k b) else f a
def x_clr {α : Type} (f : Nat → Nat → α) (k : Nat) (d : α) : Nat → Nat → α := fun a => if a = k then (fun _ => d) else f a
theorem x_up2_same {α : Type} (f : Nat → Nat → α) (k j : Nat) (x : α) : x_up2 f k j x k = fun b => if b = j then x else f k b := if_pos rfl
theorem x_up2_at {α : Type} (f : Nat → Nat → α) (k j : Nat) (x : α) : x_up2 f k j x k j = x := by simp [x_up2]
theorem x_up2_ne {α : Type} {f : Nat → Nat → α} {k j a : Nat} {x : α} (h : a ≠ k) : x_up2 f k j x a = f a := if_neg h
theorem x_up2_off {α : Type} {f : Nat → Nat → α} {k j a b : Nat} {x : α} (h : a ≠ k ∨ b ≠ j) : x_up2 f k j x a b = f a b := by
  unfold x_up2
  by_cases ha : a = k
  · subst ha; rcases h with h | h
    · exact absurd rfl h
    · simp [h]
  · simp [ha]
theorem x_clr_ne {α : Type} {f : Nat → Nat → α} {k a : Nat} {d : α} (h : a ≠ k) : x_clr f k d a = f a := if_neg h
/-- a value comes to a slot of that type -/
def x_put (G : x_G) (k j : Nat) (ty : FieldType) (v : Value) : x_G := match ty with
  | .long => (G.1, G.2.1, x_up2 G.2.2.1 k j (x_toL v), G.2.2.2)
  | .object _ => (G.1, G.2.1, G.2.2.1, x_up2 G.2.2.2 k j v)
  | .array _ => (G.1, G.2.1, G.2.2.1, x_up2 G.2.2.2 k j v)
  | _ => (G.1, x_up2 G.2.1 k j (x_toI v), G.2.2.1, G.2.2.2)
/-- may it? -/
def x_fit : FieldType → Value → Bool
  | .int, .int _ => true
  | .long, .long _ => true
  | .object _, v => x_isR v
  | .array _, v => x_isR v
  | .boolean, .int x => decide (narrow .boolean (.int x) = .int x) && fits .boolean (.int x)
  | .byte, .int x => decide (narrow .byte (.int x) = .int x) && fits .byte (.int x)
  | .char, .int x => decide (narrow .char (.int x) = .int x) && fits .char (.int x)
  | .short, .int x => decide (narrow .short (.int x) = .int x) && fits .short (.int x)
  | _, _ => false
theorem x_fit_narrow {bs : Nat} {xa : Nat → Option Nat} {ty : FieldType} {v : Value} (h : x_fit ty v = true) : narrow ty (x_cv bs xa v) = x_cv bs xa v ∧ fits ty (x_cv bs xa v) = true := by
  have hr : ∀ v : Value, x_isR v = true → x_cv bs xa v = .null ∨ ∃ a, x_cv bs xa v = .ref a := by
    intro v hv
    rw [x_cv_R hv]
    cases x_ro bs xa v with
    | none => exact Or.inl rfl
    | some a => exact Or.inr ⟨a, rfl⟩
  unfold x_fit at h
  split at h
  case _ => exact ⟨rfl, rfl⟩
  case _ => exact ⟨rfl, rfl⟩
  case _ => rcases hr _ h with e | ⟨a, e⟩ <;> rw [e] <;> exact ⟨rfl, rfl⟩
  case _ => rcases hr _ h with e | ⟨a, e⟩ <;> rw [e] <;> exact ⟨rfl, rfl⟩
  case _ => simp only [Bool.and_eq_true, decide_eq_true_eq] at h; exact h
  case _ => simp only [Bool.and_eq_true, decide_eq_true_eq] at h; exact h
  case _ => simp only [Bool.and_eq_true, decide_eq_true_eq] at h; exact h
  case _ => simp only [Bool.and_eq_true, decide_eq_true_eq] at h; exact h
  case _ => cases h
theorem x_put_1 (G : x_G) (k j : Nat) (ty : FieldType) (v : Value) : (x_put G k j ty v).1 = G.1 := by cases ty <;> rfl
theorem x_fv_put {G : x_G} {k j : Nat} {ty : FieldType} {v : Value} (h : x_fit ty v = true) : x_fv (x_put G k j ty v) k j ty = v := by
  unfold x_fit at h
  split at h
  case _ => simp [x_fv, x_put, x_up2_at, x_toI]
  case _ => simp [x_fv, x_put, x_up2_at, x_toL]
  case _ => simp only [x_fv, x_put, x_up2_at]; exact x_nr_isR h
  case _ => simp only [x_fv, x_put, x_up2_at]; exact x_nr_isR h
  case _ => simp [x_fv, x_put, x_up2_at, x_toI]
  case _ => simp [x_fv, x_put, x_up2_at, x_toI]
  case _ => simp [x_fv, x_put, x_up2_at, x_toI]
  case _ => simp [x_fv, x_put, x_up2_at, x_toI]
  case _ => cases h
theorem x_fv_off {G : x_G} {k j a b : Nat} {ty ty' : FieldType} {v : Value} (h : a ≠ k ∨ b ≠ j) : x_fv (x_put G k j ty v) a b ty' = x_fv G a b ty' := by
  cases ty <;> cases ty' <;> simp only [x_fv, x_put, x_up2_off h]
/-- the types of arrays' elements -/
def x_ety : Nat → FieldType | 0 => .int | 1 => .long | 2 => .byte | 3 => .boolean | 4 => .object RX10 | 5 => .object RX5 | _ => .object RX7
abbrev x_Ad : Type := va_G × (Nat → ClassId) × Nat × (Nat → Option Nat)
/-- a place's cell, as the heap holds it -/
def x_at (E : x_Ad) (G : x_G) (H : Heap) (k : Nat) : Nat ⊕ (Nat × Nat) → Prop
  | .inl ci => t_OB (E.2.2.1 + k) (E.1.1 ci) (x_fty ci).length (E.1.2 ci) H (fun j => x_cv E.2.2.1 E.2.2.2 (x_fv G k j ((x_fty ci).getD j .int)))
  | .inr (t, n) => H[E.2.2.1 + k]? = some (arrV (E.2.1 t) n (fun j => x_cv E.2.2.1 E.2.2.2 (x_fv G k j (x_ety t))))
def x_HR (E : x_Ad) (G : x_G) (H : Heap) : Prop := H.size = E.2.2.1 + G.1.length ∧ ∀ k sh, G.1[k]? = some sh → x_at E G H k sh
/-- what is known of the tables -/
def x_KA (E : x_Ad) (U : State) : Prop := (∀ ci q, vwCl[ci]? = some q → u_Kn U q.1 q.2.1 q.2.2 (E.1.1 ci) (E.1.2 ci)) ∧ ∀ t, t < 7 → ArrOfT U (E.2.1 t) (x_ety t) ∧ va_RA U (E.2.1 t) (x_ety t)
theorem x_KA.moved {E : x_Ad} {u U : State} (hvm : u.vm.Alike U.vm) (h : x_KA E u) : x_KA E U := ⟨fun ci q hq => u_Kn_moved hvm (h.1 ci q hq), fun t ht => ⟨arrOfT_moved hvm (h.2 t ht).1, (h.2 t ht).2.moved hvm⟩⟩
/-- what a class's rows of the tables say -/
def x_CI (ci : Nat) (C : String) (T : u_T) (N : Nat) : Prop := vwCl[ci]? = some (C, T, N) ∧ (x_fty ci).length = N ∧ (∀ k, k < N → parseFieldDescriptor (T k).2.2.1 = some ((x_fty ci).getD k .int)) ∧ (∀ a, a < N → ∀ b, b < N → a ≠ b → (T a).2.1 ≠ (T b).2.1) ∧ ∀ w ∈ u_ws C T N, w ∈ lw_tbl
theorem x_at_kept {E : x_Ad} {G G' : x_G} {H H1 : Heap} {k : Nat} {sh : Nat ⊕ (Nat × Nat)} (h : x_at E G H k sh) (hq : H1[E.2.2.1 + k]? = H[E.2.2.1 + k]?) (hG : ∀ j ty, x_fv G' k j ty = x_fv G k j ty) : x_at E G' H1 k sh := by
  rcases sh with ci | ⟨t, n⟩
  · exact (t_OB.kept h hq).to (fun j _ => by rw [hG])
  · show H1[_]? = _
    rw [hq]
    exact h.trans (by simp only [hG])
theorem x_HR_put {E : x_Ad} {G : x_G} {H H1 : Heap} {k j : Nat} {ty : FieldType} {v : Value} {sh : Nat ⊕ (Nat × Nat)} (h : x_HR E G H) (hsh : G.1[k]? = some sh) (hz : H1.size = H.size) (ho : ∀ q, q ≠ E.2.2.1 + k → H1[q]? = H[q]?) (ha : x_at E (x_put G k j ty v) H1 k sh) : x_HR E (x_put G k j ty v) H1 := by
  refine ⟨by rw [hz, h.1, x_put_1], fun a sh' hs => ?_⟩
  rw [x_put_1] at hs
  by_cases hak : a = k
  · subst hak
    rw [hsh] at hs
    cases hs
    exact ha
  · exact x_at_kept (h.2 a sh' hs) (ho _ (by omega)) (fun j' ty' => x_fv_off (Or.inl hak))
/-- a new cell behind all others, with zeros -/
def x_new (G : x_G) (sh : Nat ⊕ (Nat × Nat)) : x_G := (G.1 ++ [sh], x_clr G.2.1 G.1.length 0, x_clr G.2.2.1 G.1.length 0, x_clr G.2.2.2 G.1.length .null)
theorem x_fv_new {G : x_G} {sh : Nat ⊕ (Nat × Nat)} {k j : Nat} {ty : FieldType} (h : k ≠ G.1.length) : x_fv (x_new G sh) k j ty = x_fv G k j ty := by
  cases ty <;> simp only [x_fv, x_new, x_clr_ne h]
theorem x_fv_new0 {G : x_G} {sh : Nat ⊕ (Nat × Nat)} {j : Nat} {ty : FieldType} (h : ty ≠ .float) (h2 : ty ≠ .double) : x_fv (x_new G sh) G.1.length j ty = defaultValue ty := by
  cases ty <;> simp_all [x_fv, x_new, x_clr, defaultValue, x_nr]
theorem x_HR_new {E : x_Ad} {G : x_G} {H H1 : Heap} {sh : Nat ⊕ (Nat × Nat)} (h : x_HR E G H) (hz : H1.size = H.size + 1) (ho : ∀ q, q < H.size → H1[q]? = H[q]?) (ha : x_at E (x_new G sh) H1 G.1.length sh) : x_HR E (x_new G sh) H1 := by
  refine ⟨by rw [hz, h.1]; simp [x_new]; omega, fun a sh' hs => ?_⟩
  by_cases hal : a < G.1.length
  · rw [show (x_new G sh).1 = G.1 ++ [sh] from rfl, List.getElem?_append_left hal] at hs
    exact x_at_kept (h.2 a sh' hs) (ho _ (by rw [h.1]; omega)) (fun j' ty' => x_fv_new (by omega))
  · rw [show (x_new G sh).1 = G.1 ++ [sh] from rfl, List.getElem?_append_right (by omega)] at hs
    have hz : a - G.1.length < 1 := (List.getElem?_eq_some_iff.mp hs).1
    have ha' : a = G.1.length := by omega
    subst ha'
    rw [Nat.sub_self] at hs
    cases hs
    exact ha
section XHEAP
variable {p : Program} {l : Launch} {e : Env} {R : Room} {s : State} {m : MethodId} {args : Array Value} {below : List Frame} {meth : Method} {c : Code} {H : Heap} {locs : List Loc} {cells slots : Nat} {Q : State → Prop}
variable {cc : ByteArray} {pc : Nat} {ls : Array Slot} {rest : List Value} {E : x_Ad} {G : x_G}
theorem x_getf (hx : p.tables.exec = Jvm.exec) (hb : c.code = cc) (hts : ∀ w ∈ lw_tbl, w.before args s = true) {own C : String} {T : u_T} {N ci index k j : Nat} (hC : x_CI ci C T N) (hown : s.vm.findClass own = some m.cls) (hK : x_KA E s) (hH : x_HR E G H) (hk : G.1[k]? = some (.inl ci)) (hj : j < N)
    (hlink : (Cond.fieldLink own index (T j).1 (T j).2.1 (T j).2.2.1).before args s = true ∨ ∃ host, (Cond.fieldLinkNest own index (T j).1 (T j).2.1 (T j).2.2.1 host).before args s = true) (hdg : decode cc pc = .ok (.getfield index, 3))
    (kk : W p l e R s m args below meth c H locs cells slots Q (F0 m (pc + 3) ls (x_cv E.2.2.1 E.2.2.2 (x_fv G k j ((x_fty ci).getD j .int)) :: rest))) : W p l e R s m args below meth c H locs cells slots Q (F0 m pc ls (.ref (E.2.2.1 + k) :: rest)) := by
  obtain ⟨hc, hN, -, -, hin⟩ := hC
  obtain ⟨cell, q1, q2, q3, q4⟩ := hH.2 k _ hk
  obtain ⟨hS, hfc, kC, hkC, hkind⟩ := hK.1 ci _ hc
  obtain ⟨cf, kf, fi, f, hi, hsl⟩ := hS j hj
  have h1 : cell.vm ≠ .unknown := by rw [q3]; exact fun h => by cases h
  have h2 := q4 j (by rw [hN]; exact hj)
  rw [← hsl] at h2
  rcases hlink with hlink | ⟨host, hlink⟩
  · exact W.getf hx hb hown hlink hi (u_facts hfc hkC (u_lays hts hin hj) hi).1 q1 h1 h2 rfl rfl hdg kk
  · exact va_Wgetf hx hb hown hlink hi (u_facts hfc hkC (u_lays hts hin hj) hi).1 q1 h1 h2 rfl rfl hdg kk
theorem x_putf (hx : p.tables.exec = Jvm.exec) (hb : c.code = cc) (hts : ∀ w ∈ lw_tbl, w.before args s = true) {own C : String} {T : u_T} {N ci index k j : Nat} {v : Value} (hC : x_CI ci C T N) (hown : s.vm.findClass own = some m.cls) (hK : x_KA E s) (hH : x_HR E G H) (hk : G.1[k]? = some (.inl ci)) (hj : j < N)
    (hfit : x_fit ((x_fty ci).getD j .int) v = true)
    (hlink : ((T j).2.2.2 = false ∧ ((Cond.fieldLink own index (T j).1 (T j).2.1 (T j).2.2.1).before args s = true ∨ ∃ host, (Cond.fieldLinkNest own index (T j).1 (T j).2.1 (T j).2.2.1 host).before args s = true)) ∨ ((T j).2.2.2 = true ∧ meth.name = "<init>" ∧ (T j).1 = own ∧ (Cond.fieldLink own index (T j).1 (T j).2.1 (T j).2.2.1).before args s = true)) (hdg : decode cc pc = .ok (.putfield index, 3))
    (kk : ∀ (H1 : Heap) (z : Loc), z.base = E.2.2.1 + k → x_HR E (x_put G k j ((x_fty ci).getD j .int) v) H1 → (∀ q, q < E.2.2.1 → H1[q]? = H[q]?) → W p l e R s m args below meth c H1 (locs ++ [z]) cells slots Q (F0 m (pc + 3) ls rest)) : W p l e R s m args below meth c H locs cells slots Q (F0 m pc ls (x_cv E.2.2.1 E.2.2.2 v :: .ref (E.2.2.1 + k) :: rest)) := by
  obtain ⟨hc, hN, hty, hnm, hin⟩ := hC
  have hap := va_apart (own := own) (tys := []) hts hin (fun k => (x_fty ci).getD k .int) hty hnm (D := E.1) ⟨hK.1, fun k q h => by simp at h⟩ hc
  obtain ⟨cell, q1, q2, q3, q4⟩ := hH.2 k _ hk
  obtain ⟨hS, hfc, kC, hkC, hkind⟩ := hK.1 ci _ hc
  obtain ⟨cf, kf, fi, f, hi, hsl⟩ := hS j hj
  have hst := (u_facts hfc hkC (u_lays hts hin hj) hi).1
  obtain ⟨hn, hf⟩ := x_fit_narrow (bs := E.2.2.1) (xa := E.2.2.2) hfit
  have hlt : f.slot < cell.slots.size := by rw [hsl]; exact k2_hasslot (q4 j (by rw [hN]; exact hj))
  have key : ∀ H1 : Heap, H1[E.2.2.1 + k]? = some (cell.setSlot f.slot (x_cv E.2.2.1 E.2.2.2 v)) → H1.size = H.size → (∀ q, q ≠ E.2.2.1 + k → H1[q]? = H[q]?) → x_HR E (x_put G k j ((x_fty ci).getD j .int) v) H1 := by
    intro H1 e1 e2 e3
    rw [hsl] at e1
    refine x_HR_put hH hk e2 e3 ?_
    refine ⟨_, e1, q2, q3, fun a ha => ?_⟩
    rw [t_set q4 (fun a b ha hb => hap a b (by rw [← hN]; exact ha) (by rw [← hN]; exact hb)) (by rw [hN]; exact hj) _ a ha]
    congr 1
    unfold updV
    by_cases haj : a = j
    · subst haj
      rw [if_pos rfl]; dsimp only; rw [x_fv_put hfit]
    · rw [if_neg haj]; dsimp only; rw [x_fv_off (Or.inr haj)]
  have hlow : ∀ H1 : Heap, (∀ q, q ≠ E.2.2.1 + k → H1[q]? = H[q]?) → ∀ q, q < E.2.2.1 → H1[q]? = H[q]? := fun H1 h q hq => h q (by omega)
  rcases hlink with ⟨hfin, hlink⟩ | ⟨hfin, hin2, hdecl, hlink⟩
  · have hlay := hts _ (hin _ (u_in_lay hj))
    unfold u_lay at hlay
    rw [if_neg (by rw [hfin]; decide)] at hlay
    have h6 := u_store hfc hkC hkind hlay hi (hty j hj) hn hf
    rcases hlink with hlink | ⟨host, hlink⟩
    · exact W.putK hx hb (f := f) ⟨hown, hlink, ⟨_, _, _, hi⟩, hst⟩ (by rw [q2]; exact h6) q1 q3 hlt rfl rfl hdg fun H' e1 e2 e3 => kk H' _ rfl (key H' e1 e2 e3) (hlow H' e3)
    · exact va_WputK hx hb (f := f) hown hlink hi hst (by rw [q2]; exact h6) q1 q3 hlt rfl rfl hdg fun H' e1 e2 e3 => kk H' _ rfl (key H' e1 e2 e3) (hlow H' e3)
  · have hlay := hts _ (hin _ (u_in_lay hj))
    unfold u_lay at hlay
    rw [if_pos hfin] at hlay
    have hcf : m.cls = cf := by
      obtain ⟨_, _, c', _, _, _, -, -, hf', -, -, -, hown2, -⟩ := Cond.laysFinal_spec hlay
      have e1 : c' = cf := by have := hi.symm.trans hf'; simp at this; exact this.1.symm
      rw [hdecl] at hown2
      rw [← e1]; exact Option.some.inj (hown.symm.trans hown2)
    have h6 := u_fits hfc hkC hkind (Or.inr hlay) hi (hty j hj) hn hf
    exact W.putFinK hx hb hown hlink hi hst hcf hin2 (by rw [q2]; exact h6) q1 q3 hlt rfl rfl hdg fun H' e1 e2 e3 => kk H' _ rfl (key H' e1 e2 e3) (hlow H' e3)
end XHEAP
end
section
/-! ===== the shadow machine: arrays, new cells ===== -/
section XARR
variable {p : Program} {l : Launch} {e : Env} {R : Room} {s : State} {m : MethodId} {args : Array Value} {below : List Frame} {meth : Method} {c : Code} {H : Heap} {locs : List Loc} {cells slots : Nat} {Q : State → Prop}
variable {cc : ByteArray} {pc : Nat} {ls : Array Slot} {rest : List Value} {E : x_Ad} {G : x_G}
theorem x_alen (hx : p.tables.exec = Jvm.exec) (hb : c.code = cc) (hK : x_KA E s) (hH : x_HR E G H) {k t n : Nat} (hk : G.1[k]? = some (.inr (t, n))) (ht : t < 7) (hdg : decode cc pc = .ok (.arraylength, 1))
    (kk : W p l e R s m args below meth c H locs cells slots Q (F0 m (pc + 1) ls (.int (Int32.ofNat n) :: rest))) : W p l e R s m args below meth c H locs cells slots Q (F0 m pc ls (.ref (E.2.2.1 + k) :: rest)) :=
  W.alen (n := Int32.ofNat n) hx hb (hH.2 k _ hk) ((hK.2 t ht).1 n _) (by rw [arrV_size] <;> rfl) rfl rfl hdg kk
def x_ald : Nat → Instr | 0 => .iaload | 1 => .laload | 2 => .baload | 3 => .baload | _ => .aaload
theorem x_ald_ok (hx : p.tables.exec = Jvm.exec) (hb : c.code = cc) (hK : x_KA E s) (hH : x_HR E G H) {k t n : Nat} (hk : G.1[k]? = some (.inr (t, n))) (ht : t < 7) {i : Int32} (hi : vp_in i n) (hdg : decode cc pc = .ok (x_ald t, 1))
    (kk : W p l e R s m args below meth c H locs cells slots Q (F0 m (pc + 1) ls (x_cv E.2.2.1 E.2.2.2 (x_fv G k i.toNatClampNeg (x_ety t)) :: rest))) : W p l e R s m args below meth c H locs cells slots Q (F0 m pc ls (.int i :: .ref (E.2.2.1 + k) :: rest)) := by
  have hlt : i.toNatClampNeg < n := Nat.not_le.mp fun q => hi (Or.inr q)
  have hc := hH.2 k _ hk
  have ha := (hK.2 t ht).1 n (fun j => x_cv E.2.2.1 E.2.2.2 (x_fv G k j (x_ety t)))
  have hsz : ¬ (i < 0 ∨ (arrV (E.2.1 t) n (fun j => x_cv E.2.2.1 E.2.2.2 (x_fv G k j (x_ety t)))).slots.size ≤ i.toNatClampNeg) := by rw [arrV_size]; exact hi
  have hv : (arrV (E.2.1 t) n (fun j => x_cv E.2.2.1 E.2.2.2 (x_fv G k j (x_ety t)))).slots[i.toNatClampNeg]? = some (x_cv E.2.2.1 E.2.2.2 (x_fv G k i.toNatClampNeg (x_ety t))) := arrV_read _ _ hlt
  have hu : (arrV (E.2.1 t) n (fun j => x_cv E.2.2.1 E.2.2.2 (x_fv G k j (x_ety t)))).vm ≠ .unknown := fun q => by cases q
  obtain rfl | rfl | rfl | rfl | rfl | rfl | rfl : t = 0 ∨ t = 1 ∨ t = 2 ∨ t = 3 ∨ t = 4 ∨ t = 5 ∨ t = 6 := by omega
  · exact W.iald hx hb hc ha hu hsz hv rfl rfl hdg kk
  · exact W.lald hx hb hc ha hu hsz hv rfl rfl hdg kk
  · exact W.bald hx hb hc ha hu hsz hv rfl rfl hdg kk
  · exact W.zald hx hb hc ha hu hsz hv rfl rfl hdg kk
  · exact W.aald hx hb hc ha rfl hu hsz hv rfl rfl hdg kk
  · exact W.aald hx hb hc ha rfl hu hsz hv rfl rfl hdg kk
  · exact W.aald hx hb hc ha rfl hu hsz hv rfl rfl hdg kk
theorem x_low {b k : Nat} {H H1 : Heap} (h : ∀ q : Nat, q ≠ b + k → H1[q]? = H[q]?) : ∀ q : Nat, q < b → H1[q]? = H[q]? := fun q hq => h q (by omega)
/-- an array's cell behind a store -/
theorem x_stored {k t n j : Nat} {v : Value} {H1 : Heap} (hH : x_HR E G H) (hk : G.1[k]? = some (.inr (t, n))) (hfit : x_fit (x_ety t) v = true) (e1 : H1[E.2.2.1 + k]? = some ((arrV (E.2.1 t) n (fun j => x_cv E.2.2.1 E.2.2.2 (x_fv G k j (x_ety t)))).setSlot j (x_cv E.2.2.1 E.2.2.2 v))) (e2 : H1.size = H.size) (e3 : ∀ q, q ≠ E.2.2.1 + k → H1[q]? = H[q]?) : x_HR E (x_put G k j (x_ety t) v) H1 := by
  refine x_HR_put hH hk e2 e3 ?_
  show H1[_]? = _
  rw [e1, arrV_store]
  congr 2
  funext q
  unfold updV
  by_cases hq : q = j
  · subst hq; rw [if_pos rfl, x_fv_put hfit]
  · rw [if_neg hq]; dsimp only; rw [x_fv_off (Or.inr hq)]
theorem x_iast_ok (hx : p.tables.exec = Jvm.exec) (hb : c.code = cc) (hK : x_KA E s) (hH : x_HR E G H) {k n : Nat} (hk : G.1[k]? = some (.inr (0, n))) {i x : Int32} (hi : vp_in i n) (hdg : decode cc pc = .ok (.iastore, 1))
    (kk : ∀ (H1 : Heap) (z : Loc), z.base = E.2.2.1 + k → x_HR E (x_put G k i.toNatClampNeg .int (.int x)) H1 → (∀ q, q < E.2.2.1 → H1[q]? = H[q]?) → W p l e R s m args below meth c H1 (locs ++ [z]) cells slots Q (F0 m (pc + 1) ls rest)) : W p l e R s m args below meth c H locs cells slots Q (F0 m pc ls (.int x :: .int i :: .ref (E.2.2.1 + k) :: rest)) :=
  W.iast hx hb (hH.2 k _ hk) ((hK.2 0 (by omega)).1 n _) (fun q => by cases q) (by rw [arrV_size]; exact hi) rfl rfl hdg fun H1 e1 e2 e3 => kk H1 _ rfl (x_stored (t := 0) hH hk rfl e1 e2 e3) (x_low e3)
theorem x_last_ok (hx : p.tables.exec = Jvm.exec) (hb : c.code = cc) (hK : x_KA E s) (hH : x_HR E G H) {k n : Nat} (hk : G.1[k]? = some (.inr (1, n))) {i : Int32} {x : Int64} (hi : vp_in i n) (hdg : decode cc pc = .ok (.lastore, 1))
    (kk : ∀ (H1 : Heap) (z : Loc), z.base = E.2.2.1 + k → x_HR E (x_put G k i.toNatClampNeg .long (.long x)) H1 → (∀ q, q < E.2.2.1 → H1[q]? = H[q]?) → W p l e R s m args below meth c H1 (locs ++ [z]) cells slots Q (F0 m (pc + 1) ls rest)) : W p l e R s m args below meth c H locs cells slots Q (F0 m pc ls (.long x :: .int i :: .ref (E.2.2.1 + k) :: rest)) :=
  W.last hx hb (hH.2 k _ hk) ((hK.2 1 (by omega)).1 n _) (fun q => by cases q) (by rw [arrV_size]; exact hi) rfl rfl hdg fun H1 e1 e2 e3 => kk H1 _ rfl (x_stored (t := 1) hH hk rfl e1 e2 e3) (x_low e3)
theorem x_nb_fit (x : Int32) : x_fit .byte (narrow .byte (.int x)) = true := by
  show (decide (narrow .byte (.int x.toInt8.toInt32) = .int x.toInt8.toInt32) && fits .byte (.int x.toInt8.toInt32)) = true
  rw [pk_nb, pk_fb]; simp
theorem x_nz_fit (x : Int32) : x_fit .boolean (narrow .boolean (.int x)) = true := by
  show (decide (narrow .boolean (.int (x &&& 1)) = .int (x &&& 1)) && fits .boolean (.int (x &&& 1))) = true
  have h : x &&& 1 = 0 ∨ x &&& 1 = 1 := by
    have h1 : (x &&& 1).toBitVec = x.toBitVec &&& 1#32 := rfl
    rcases Nat.mod_two_eq_zero_or_one x.toBitVec.toNat with q | q
    · left
      apply Int32.toBitVec_inj.mp
      apply BitVec.eq_of_toNat_eq
      rw [h1, BitVec.toNat_and]
      simpa using q
    · right
      apply Int32.toBitVec_inj.mp
      apply BitVec.eq_of_toNat_eq
      rw [h1, BitVec.toNat_and]
      simpa using q
  rcases h with h | h <;> rw [h] <;> decide
theorem x_bast_ok (hx : p.tables.exec = Jvm.exec) (hb : c.code = cc) (hK : x_KA E s) (hH : x_HR E G H) {k n : Nat} (hk : G.1[k]? = some (.inr (2, n))) {i x : Int32} (hi : vp_in i n) (hdg : decode cc pc = .ok (.bastore, 1))
    (kk : ∀ (H1 : Heap) (z : Loc), z.base = E.2.2.1 + k → x_HR E (x_put G k i.toNatClampNeg .byte (narrow .byte (.int x))) H1 → (∀ q, q < E.2.2.1 → H1[q]? = H[q]?) → W p l e R s m args below meth c H1 (locs ++ [z]) cells slots Q (F0 m (pc + 1) ls rest)) : W p l e R s m args below meth c H locs cells slots Q (F0 m pc ls (.int x :: .int i :: .ref (E.2.2.1 + k) :: rest)) :=
  W.bast hx hb (hH.2 k _ hk) ((hK.2 2 (by omega)).1 n _) (fun q => by cases q) (by rw [arrV_size]; exact hi) rfl rfl hdg fun H1 e1 e2 e3 => kk H1 _ rfl (x_stored (t := 2) hH hk (x_nb_fit x) e1 e2 e3) (x_low e3)
theorem x_zast_ok (hx : p.tables.exec = Jvm.exec) (hb : c.code = cc) (hK : x_KA E s) (hH : x_HR E G H) {k n : Nat} (hk : G.1[k]? = some (.inr (3, n))) {i x : Int32} (hi : vp_in i n) (hdg : decode cc pc = .ok (.bastore, 1))
    (kk : ∀ (H1 : Heap) (z : Loc), z.base = E.2.2.1 + k → x_HR E (x_put G k i.toNatClampNeg .boolean (narrow .boolean (.int x))) H1 → (∀ q, q < E.2.2.1 → H1[q]? = H[q]?) → W p l e R s m args below meth c H1 (locs ++ [z]) cells slots Q (F0 m (pc + 1) ls rest)) : W p l e R s m args below meth c H locs cells slots Q (F0 m pc ls (.int x :: .int i :: .ref (E.2.2.1 + k) :: rest)) :=
  W.zast hx hb (hH.2 k _ hk) ((hK.2 3 (by omega)).1 n _) (fun q => by cases q) (by rw [arrV_size]; exact hi) rfl rfl hdg fun H1 e1 e2 e3 => kk H1 _ rfl (x_stored (t := 3) hH hk (x_nz_fit x) e1 e2 e3) (x_low e3)
/-- the class of the elements of an array of references -/
def x_eci : Nat → Nat | 4 => 9 | 5 => 4 | _ => 6
theorem x_aast_ok (hx : p.tables.exec = Jvm.exec) (hb : c.code = cc) (hK : x_KA E s) (hH : x_HR E G H) {k t n k2 : Nat} (hk : G.1[k]? = some (.inr (t, n))) (ht4 : 4 ≤ t) (ht : t < 7) {i : Int32} (hi : vp_in i n) (hk2 : G.1[k2]? = some (.inl (x_eci t))) (hdg : decode cc pc = .ok (.aastore, 1))
    (kk : ∀ (H1 : Heap) (z : Loc), z.base = E.2.2.1 + k → x_HR E (x_put G k i.toNatClampNeg (x_ety t) (.ref k2)) H1 → (∀ q, q < E.2.2.1 → H1[q]? = H[q]?) → W p l e R s m args below meth c H1 (locs ++ [z]) cells slots Q (F0 m (pc + 1) ls rest)) : W p l e R s m args below meth c H locs cells slots Q (F0 m pc ls (.ref (E.2.2.1 + k2) :: .int i :: .ref (E.2.2.1 + k) :: rest)) := by
  have hlt : i.toNatClampNeg < n := Nat.not_le.mp fun q => hi (Or.inr q)
  have h0 : ¬ i < 0 := fun q => hi (Or.inl q)
  have hcl : ∃ C T N, vwCl[x_eci t]? = some (C, T, N) ∧ x_ety t = .object C := by
    match t, ht4, ht with
    | 4, _, _ => exact ⟨_, _, _, rfl, rfl⟩
    | 5, _, _ => exact ⟨_, _, _, rfl, rfl⟩
    | 6, _, _ => exact ⟨_, _, _, rfl, rfl⟩
  obtain ⟨C, T, N, hvw, hty⟩ := hcl
  have hcls := (hK.1 (x_eci t) _ hvw).2
  have hra := (hK.2 t ht).2
  rw [hty] at hra
  obtain ⟨kA, comp, k1, k2', k3, -⟩ := hra
  have hcomp : comp = E.1.1 (x_eci t) := Option.some.inj (k3.symm.trans hcls.1)
  subst hcomp
  obtain ⟨cellV, g1, g2, g3, -⟩ := hH.2 k2 _ hk2
  obtain ⟨kC, hkC, -⟩ := hcls.2
  refine W.aast hx hb (hH.2 k _ hk) (fun q h => by cases h) (fun h => by cases h) k1 k2' rfl hkC ⟨h0, by rw [arrV_size]; exact hlt⟩ g1 (fun q h => by rw [g3] at h; cases h) (by rw [g2]; exact hkC) (by rw [g2]; exact va_assign hcls) rfl rfl hdg fun H1 e1 e2 e3 => ?_
  exact kk H1 _ rfl (x_stored hH hk (by rw [hty]; rfl) e1 e2 e3) (x_low e3)
theorem x_aastN_ok (hx : p.tables.exec = Jvm.exec) (hb : c.code = cc) (hK : x_KA E s) (hH : x_HR E G H) {k t n : Nat} (hk : G.1[k]? = some (.inr (t, n))) (ht4 : 4 ≤ t) (ht : t < 7) {i : Int32} (hi : vp_in i n) (hdg : decode cc pc = .ok (.aastore, 1))
    (kk : ∀ (H1 : Heap) (z : Loc), z.base = E.2.2.1 + k → x_HR E (x_put G k i.toNatClampNeg (x_ety t) .null) H1 → (∀ q, q < E.2.2.1 → H1[q]? = H[q]?) → W p l e R s m args below meth c H1 (locs ++ [z]) cells slots Q (F0 m (pc + 1) ls rest)) : W p l e R s m args below meth c H locs cells slots Q (F0 m pc ls (.null :: .int i :: .ref (E.2.2.1 + k) :: rest)) := by
  have hcl : ∃ C, x_ety t = .object C := by
    match t, ht4, ht with
    | 4, _, _ => exact ⟨_, rfl⟩
    | 5, _, _ => exact ⟨_, rfl⟩
    | 6, _, _ => exact ⟨_, rfl⟩
  obtain ⟨C, hty⟩ := hcl
  have ha := (hK.2 t ht).1
  rw [hty] at ha
  refine va_WaastN (C := C) hx hb (hH.2 k _ hk) (ha n _) (fun h => by cases h) (by rw [arrV_size]; exact hi) rfl rfl hdg fun H1 e1 e2 e3 => ?_
  exact kk H1 _ rfl (x_stored hH hk (by rw [hty]; rfl) e1 e2 e3) (x_low e3)
theorem x_new_ok (hx : p.tables.exec = Jvm.exec) (hb : c.code = cc) (hts : ∀ w ∈ lw_tbl, w.before args s = true) {own C : String} {T : u_T} {N ci index : Nat} (hC : x_CI ci C T N) (hnf : ∀ j, (x_fty ci).getD j .int ≠ .float ∧ (x_fty ci).getD j .int ≠ .double) (hown : s.vm.findClass own = some m.cls) (hK : x_KA E s) (hH : x_HR E G H)
    (hcl : (Cond.classLink own index C).before args s = true) (hinst : (Cond.instantiable C N).before args s = true) (hini : (Cond.initialized C).before args s = true) (hcells : cells + 1 ≤ R.cells) (hslots : slots + N ≤ R.slots) (hdg : decode cc pc = .ok (.new index, 3))
    (kk : ∀ H1 : Heap, x_HR E (x_new G (.inl ci)) H1 → (∀ q, q < E.2.2.1 → H1[q]? = H[q]?) → W p l e R s m args below meth c H1 locs (cells + 1) (slots + N) Q (F0 m (pc + 3) ls (.ref (E.2.2.1 + G.1.length) :: rest))) : W p l e R s m args below meth c H locs cells slots Q (F0 m pc ls rest) := by
  obtain ⟨hc, hN, hty, -, hin⟩ := hC
  have hKn := hK.1 ci _ hc
  refine W.newcK hx hb hown hcl hinst hini rfl hdg hcells hslots hKn.2.1 hH.1 fun H1 kC hkC e1 z1 o1 => ?_
  refine kk H1 (x_HR_new hH (by rw [z1, hH.1]) (fun q hq => o1 q (by rw [← hH.1]; exact hq)) ?_) (fun q hq => o1 q (by omega))
  have hb := u_born (fun k => (x_fty ci).getD k .int) hts hin hKn hkC e1 hty
  show t_OB _ _ (x_fty ci).length _ _ _
  rw [hN]
  refine hb.to fun j hj => ?_
  rw [x_fv_new0 (hnf j).1 (hnf j).2]
  cases (x_fty ci).getD j .int <;> rfl
def x_atn : ArrayType → Option Nat | .int => some 0 | .long => some 1 | .byte => some 2 | .boolean => some 3 | _ => none
theorem x_newa_ok (hx : p.tables.exec = Jvm.exec) (hb : c.code = cc) (hK : x_KA E s) (hH : x_HR E G H) {at_ : ArrayType} {t : Nat} (hat : x_atn at_ = some t) {n : Int32} (harr : (Cond.arrayClass (newarray.typeOf at_)).before args s = true) (hn : ¬ n < 0) (hN : n.toNatClampNeg ≤ 100000)
    (hcells : cells + 1 ≤ R.cells) (hslots : slots + n.toNatClampNeg ≤ R.slots) (hdg : decode cc pc = .ok (.newarray at_, 2))
    (kk : ∀ H1 : Heap, x_HR E (x_new G (.inr (t, n.toNatClampNeg))) H1 → (∀ q, q < E.2.2.1 → H1[q]? = H[q]?) → W p l e R s m args below meth c H1 locs (cells + 1) (slots + n.toNatClampNeg) Q (F0 m (pc + 2) ls (.ref (E.2.2.1 + G.1.length) :: rest))) : W p l e R s m args below meth c H locs cells slots Q (F0 m pc ls (.int n :: rest)) := by
  have h4 : t < 4 ∧ newarray.typeOf at_ = x_ety t := by cases at_ <;> cases hat <;> exact ⟨by omega, rfl⟩
  refine va_newaK hx hb harr rfl hdg rfl hn rfl (by
    have : componentBytes (newarray.typeOf at_) ≤ 8 := by cases at_ <;> decide
    calc n.toNatClampNeg * componentBytes (newarray.typeOf at_) ≤ 100000 * 8 := Nat.mul_le_mul hN this
      _ ≤ 536870912 := by decide) hcells hslots hH.1 fun H1 cA e1 z1 o1 hAr hNm => ?_
  have hcA : cA = E.2.1 t := by
    have h5 := (hK.2 t (by omega)).2
    rw [← h4.2] at h5
    have h6 : s.vm.findClass ("[" ++ (newarray.typeOf at_).toString) = some (E.2.1 t) := by cases at_ <;> cases hat <;> exact h5
    exact Option.some.inj (hNm.symm.trans h6)
  subst hcA
  refine kk H1 (x_HR_new hH (by rw [z1, hH.1]) (fun q hq => o1 q (by rw [← hH.1]; exact hq)) ?_) (fun q hq => o1 q (by omega))
  show H1[_]? = _
  rw [e1, h4.2]
  congr 2
  funext j
  rw [x_fv_new0]
  · cases at_ <;> cases hat <;> rfl
  · cases at_ <;> cases hat <;> decide
  · cases at_ <;> cases hat <;> decide
theorem x_newq_ok (hx : p.tables.exec = Jvm.exec) (hb : c.code = cc) (hK : x_KA E s) (hH : x_HR E G H) {own C : String} {index t : Nat} (ht4 : 4 ≤ t) (ht : t < 7) (hty : x_ety t = .object C) (hown : s.vm.findClass own = some m.cls) (hclink : (Cond.classLink own index C).before args s = true) (hover : (Cond.arrayOver (.object C)).before args s = true) {n : Int32} (hn : ¬ n < 0) (hN : n.toNatClampNeg ≤ 100000)
    (hcells : cells + 1 ≤ R.cells) (hslots : slots + n.toNatClampNeg ≤ R.slots) (hdg : decode cc pc = .ok (.anewarray index, 3))
    (kk : ∀ H1 : Heap, x_HR E (x_new G (.inr (t, n.toNatClampNeg))) H1 → (∀ q, q < E.2.2.1 → H1[q]? = H[q]?) → W p l e R s m args below meth c H1 locs (cells + 1) (slots + n.toNatClampNeg) Q (F0 m (pc + 3) ls (.ref (E.2.2.1 + G.1.length) :: rest))) : W p l e R s m args below meth c H locs cells slots Q (F0 m pc ls (.int n :: rest)) := by
  refine W.anew hx hb hown hclink hover rfl hdg rfl hn (by omega) hcells hslots fun cA kA comp f1 f2 f3 f4 => ?_
  have hra := (hK.2 t ht).2
  rw [hty] at hra
  obtain ⟨kA', comp', -, -, -, k4⟩ := hra
  have hcA : cA = E.2.1 t := Option.some.inj (f1.symm.trans k4)
  subst hcA
  rw [show F0 m pc ls (.int n :: rest) = F0 m pc ls (.int n :: rest) from rfl, hH.1]
  refine kk _ (x_HR_new hH (by rw [Array.size_push]) (fun q hq => by rw [Array.getElem?_push, if_neg (Nat.ne_of_lt hq)]) ?_) (fun q hq => by rw [Array.getElem?_push, if_neg (by have := hH.1; omega)])
  show (H.push _)[_]? = _
  rw [← hH.1, Array.getElem?_push_size, arrV_new]
  congr 2
  funext j
  rw [hty, x_fv_new0 (by intro h; cases h) (by intro h; cases h)]
  rfl
/-- System.arraycopy of ints or longs -/
def x_cpy (G : x_G) (k0 k1 t sp dp n : Nat) : x_G := if t = 1 then (G.1, G.2.1, (fun a => if a = k1 then va_cpy (G.2.2.1 k0) (G.2.2.1 k1) sp dp n else G.2.2.1 a), G.2.2.2) else (G.1, (fun a => if a = k1 then va_cpy (G.2.1 k0) (G.2.1 k1) sp dp n else G.2.1 a), G.2.2.1, G.2.2.2)
theorem x_cpy_ok (hx : p.tables.exec = Jvm.exec) (hb : c.code = cc) (hml : c.maxLocals = ls.size) (hK : x_KA E s) (hH : x_HR E G H) {own : String} {index k0 k1 t n0 n1 : Nat} (hown : s.vm.findClass own = some m.cls) (hlink : (Cond.methodLink own index arraycopyName).before args s = true) (hnat : (Cond.native arraycopyName).before args s = true) (hstat : (Cond.static arraycopyName).before args s = true) (hini : (Cond.initialized "java/lang/System").before args s = true)
    (ht : t < 2) (hk0 : G.1[k0]? = some (.inr (t, n0))) (hk1 : G.1[k1]? = some (.inr (t, n1))) {sp dp n : Int32} (h1 : ¬ sp < 0) (h2 : ¬ dp < 0) (h3 : ¬ n < 0) (h4 : sp.toNatClampNeg + n.toNatClampNeg ≤ n0) (h5 : dp.toNatClampNeg + n.toNatClampNeg ≤ n1)
    (hframes : 1 ≤ R.frames) (hlocals : 64 ≤ R.locals) (hdg : decode cc pc = .ok (.invokestatic index, 3))
    (kk : ∀ (H1 : Heap) (L : List Loc), (∀ z ∈ L, z.base = E.2.2.1 + k1) → x_HR E (x_cpy G k0 k1 t sp.toNatClampNeg dp.toNatClampNeg n.toNatClampNeg) H1 → (∀ q, q < E.2.2.1 → H1[q]? = H[q]?) → W p l e R s m args below meth c H1 (locs ++ L) cells slots Q (F0 m (pc + 3) ls [])) : W p l e R s m args below meth c H locs cells slots Q (F0 m pc ls [.int n, .int dp, .ref (E.2.2.1 + k1), .int sp, .ref (E.2.2.1 + k0)]) := by
  have nn : ∀ z : Int32, ¬ z < 0 → z.toInt = (z.toNatClampNeg : Int) := by
    intro z hz
    have hz0 : (0 : Int) ≤ z.toInt := by
      have := Int32.not_lt.mp hz
      simpa using Int32.le_iff_toInt_le.mp this
    show z.toInt = ((z.toInt.toNat : Nat) : Int)
    omega
  intro T hT X
  generalize hF0 : (fun j => x_cv E.2.2.1 E.2.2.2 (x_fv G k0 j (x_ety t))) = f0
  generalize hF1 : (fun j => x_cv E.2.2.1 E.2.2.2 (x_fv G k1 j (x_ety t))) = f1
  have hc0 : H[E.2.2.1 + k0]? = some (arrV (E.2.1 t) n0 f0) := by rw [← hF0]; exact hH.2 k0 _ hk0
  have hc1 : H[E.2.2.1 + k1]? = some (arrV (E.2.1 t) n1 f1) := by rw [← hF1]; exact hH.2 k1 _ hk1
  obtain ⟨-, q0, hq0, cm0, hkk0⟩ := (hK.2 t (by omega)).1 n0 f0
  obtain ⟨-, q1, hq1, cm1, hkk1⟩ := (hK.2 t (by omega)).1 n1 f1
  have hprim : refKind (x_ety t) = false := by
    match t, ht with
    | 0, _ => rfl
    | 1, _ => rfl
  obtain ⟨vm', X', step⟩ := X.arraycopy hx hown hlink hnat hstat hini (src := E.2.2.1 + k0) (dst := E.2.2.1 + k1) (cs := arrV (E.2.1 t) n0 f0) (cd := arrV (E.2.1 t) n1 f1) (srcPos := sp) (destPos := dp) (n := n) (by rw [hT]; exact hc0) (by rw [hT]; exact hc1)
    (fun _ h => by cases h) (fun _ h => by cases h) (fun h => by cases h) (fun h => by cases h) hq0 hq1 hkk0 hkk1 (by simp [hprim]) h1 h2 h3
    (by rw [nn sp h1, nn n h3, arrV_size]; omega)
    (by rw [nn dp h2, nn n h3, arrV_size]; omega)
    (fun vm₁ _ i hi => by
      have e : (arrV (E.2.1 t) n0 f0).slots.getD (sp.toNatClampNeg + i) .null = f0 (sp.toNatClampNeg + i) := by
        rw [Array.getD_eq_getD_getElem?, arrV_read _ _ (by omega)]
        rfl
      rw [e, ← hF0]
      match t, ht with
      | 0, _ => exact ⟨rfl, trivial⟩
      | 1, _ => exact ⟨rfl, trivial⟩)
    (g := F0 m pc ls [.int n, .int dp, .ref (E.2.2.1 + k1), .int sp, .ref (E.2.2.1 + k0)]) rfl (by rw [hml]) (rest := []) rfl (by rw [hb]; exact hdg) hframes (by
      have : nativeFrameWords "java/lang/System" "arraycopy" 5 + 11 ≤ 64 := by decide
      show 2 * 0 + _ + _ ≤ _
      simp only [List.map_nil, List.sum_nil]
      omega)
  have e1 : copied (arrV (E.2.1 t) n0 f0) (arrV (E.2.1 t) n1 f1) sp dp n = arrV (E.2.1 t) n1 (va_cpy f0 f1 sp.toNatClampNeg dp.toNatClampNeg n.toNatClampNeg) := va_copied (fun z => z) (E.2.1 t) (E.2.1 t) f0 f1 h4
  rw [e1] at X' step
  have hl : E.2.2.1 + k1 < H.size := (Array.getElem?_eq_some_iff.mp hc1).1
  generalize hcell : arrV (E.2.1 t) n1 (va_cpy f0 f1 sp.toNatClampNeg dp.toNatClampNeg n.toNatClampNeg) = cell at X' step
  have hheap : ((T.setVm vm').setCell (E.2.2.1 + k1) cell).heap = H.setIfInBounds (E.2.2.1 + k1) cell := by rw [← hT]; rfl
  have oq : ∀ q : Nat, q ≠ E.2.2.1 + k1 → (H.setIfInBounds (E.2.2.1 + k1) cell)[q]? = H[q]? := fun q hq => by simp [Array.getElem?_setIfInBounds, Ne.symm hq]
  have hHR : x_HR E (x_cpy G k0 k1 t sp.toNatClampNeg dp.toNatClampNeg n.toNatClampNeg) (H.setIfInBounds (E.2.2.1 + k1) cell) := by
    have hG1 : (x_cpy G k0 k1 t sp.toNatClampNeg dp.toNatClampNeg n.toNatClampNeg).1 = G.1 := by unfold x_cpy; split <;> rfl
    refine ⟨by rw [hG1]; simpa using hH.1, fun a sh hs => ?_⟩
    rw [hG1] at hs
    by_cases hak : a = k1
    · subst hak
      rw [hk1] at hs
      cases hs
      show (H.setIfInBounds (E.2.2.1 + a) cell)[E.2.2.1 + a]? = _
      rw [Array.getElem?_setIfInBounds, if_pos rfl, if_pos hl, ← hcell]
      congr 2
      funext j
      rw [← hF0, ← hF1]
      obtain rfl | rfl : t = 0 ∨ t = 1 := by omega
      · have h9 : (x_cpy G k0 a 0 sp.toNatClampNeg dp.toNatClampNeg n.toNatClampNeg).2.1 a = va_cpy (G.2.1 k0) (G.2.1 a) sp.toNatClampNeg dp.toNatClampNeg n.toNatClampNeg := by simp [x_cpy]
        refine Eq.symm ?_
        show x_cv _ _ (.int ((x_cpy G k0 a 0 sp.toNatClampNeg dp.toNatClampNeg n.toNatClampNeg).2.1 a j)) = _
        rw [h9]
        unfold va_cpy
        split <;> rfl
      · have h9 : (x_cpy G k0 a 1 sp.toNatClampNeg dp.toNatClampNeg n.toNatClampNeg).2.2.1 a = va_cpy (G.2.2.1 k0) (G.2.2.1 a) sp.toNatClampNeg dp.toNatClampNeg n.toNatClampNeg := by simp [x_cpy]
        refine Eq.symm ?_
        show x_cv _ _ (.long ((x_cpy G k0 a 1 sp.toNatClampNeg dp.toNatClampNeg n.toNatClampNeg).2.2.1 a j)) = _
        rw [h9]
        unfold va_cpy
        split <;> rfl
    · refine x_at_kept (hH.2 a sh hs) (oq _ (by omega)) (fun j' ty' => ?_)
      unfold x_cpy
      split <;> cases ty' <;> simp [x_fv, hak]
  obtain ⟨t', a1, b1⟩ := kk _ _ (fun z hz => by
    obtain ⟨w, -, hw⟩ := List.mem_map.mp hz
    rw [← hw]) hHR (fun q hq => oq q (by omega)) _ hheap X'
  exact ⟨t', step t' a1, b1⟩
end XARR
end
