section
-- ===== PART A: goes FIRST, ahead of the names: the tables' words, and 'selects' of the private methods out of them =====
/-- a private method of a class that the tables say can be made, by its rows of tables_1 -/
def lw_okq (q : MethodName × Nat) : Prop := (q.1.cls ≠ "java/lang/invoke/MethodHandle" ∧ q.1.cls ≠ "java/lang/invoke/VarHandle") ∧ Cond.instantiable q.1.cls q.2 ∈ tables_1 ∧ Cond.privateMethod q.1 ∈ tables_1 ∧ Cond.instanceMethod q.1 ∈ tables_1
theorem lw_p0 : lw_okq (⟨"HornBridge", "isTray", "(I)Z"⟩, 18) := ⟨⟨by decide +kernel, by decide +kernel⟩, List.mem_of_getElem? (i := 24) (by decide +kernel), List.mem_of_getElem? (i := 383) (by decide +kernel), List.mem_of_getElem? (i := 384) (by decide +kernel)⟩
theorem lw_p1 : lw_okq (⟨"HornBridge", "deny", "(I)Z"⟩, 18) := ⟨⟨by decide +kernel, by decide +kernel⟩, List.mem_of_getElem? (i := 24) (by decide +kernel), List.mem_of_getElem? (i := 387) (by decide +kernel), List.mem_of_getElem? (i := 388) (by decide +kernel)⟩
theorem lw_p2 : lw_okq (⟨"HornBridge$Tray", "lay", "(II)V"⟩, 3) := ⟨⟨by decide +kernel, by decide +kernel⟩, List.mem_of_getElem? (i := 294) (by decide +kernel), List.mem_of_getElem? (i := 391) (by decide +kernel), List.mem_of_getElem? (i := 392) (by decide +kernel)⟩
theorem lw_p3 : lw_okq (⟨"HornBridge", "grant", "()Z"⟩, 18) := ⟨⟨by decide +kernel, by decide +kernel⟩, List.mem_of_getElem? (i := 24) (by decide +kernel), List.mem_of_getElem? (i := 395) (by decide +kernel), List.mem_of_getElem? (i := 396) (by decide +kernel)⟩
theorem lw_p4 : lw_okq (⟨"HornBridge", "wrongPlace", "(II)I"⟩, 18) := ⟨⟨by decide +kernel, by decide +kernel⟩, List.mem_of_getElem? (i := 24) (by decide +kernel), List.mem_of_getElem? (i := 403) (by decide +kernel), List.mem_of_getElem? (i := 404) (by decide +kernel)⟩
theorem lw_p5 : lw_okq (⟨"HornBridge$Tray", "isMissing", "()Z"⟩, 3) := ⟨⟨by decide +kernel, by decide +kernel⟩, List.mem_of_getElem? (i := 294) (by decide +kernel), List.mem_of_getElem? (i := 407) (by decide +kernel), List.mem_of_getElem? (i := 408) (by decide +kernel)⟩
theorem lw_p6 : lw_okq (⟨"HornBridge$Tray", "hasStretch", "(II)Z"⟩, 3) := ⟨⟨by decide +kernel, by decide +kernel⟩, List.mem_of_getElem? (i := 294) (by decide +kernel), List.mem_of_getElem? (i := 411) (by decide +kernel), List.mem_of_getElem? (i := 412) (by decide +kernel)⟩
theorem lw_p7 : lw_okq (⟨"HornBridge$Tray", "put", "(IJ)V"⟩, 3) := ⟨⟨by decide +kernel, by decide +kernel⟩, List.mem_of_getElem? (i := 294) (by decide +kernel), List.mem_of_getElem? (i := 415) (by decide +kernel), List.mem_of_getElem? (i := 416) (by decide +kernel)⟩
theorem lw_p8 : lw_okq (⟨"HornBridge", "refuse", "(I)I"⟩, 18) := ⟨⟨by decide +kernel, by decide +kernel⟩, List.mem_of_getElem? (i := 24) (by decide +kernel), List.mem_of_getElem? (i := 423) (by decide +kernel), List.mem_of_getElem? (i := 424) (by decide +kernel)⟩
theorem lw_p9 : lw_okq (⟨"HornBridge", "answerLong", "(J)J"⟩, 18) := ⟨⟨by decide +kernel, by decide +kernel⟩, List.mem_of_getElem? (i := 24) (by decide +kernel), List.mem_of_getElem? (i := 427) (by decide +kernel), List.mem_of_getElem? (i := 428) (by decide +kernel)⟩
theorem lw_p10 : lw_okq (⟨"HornBridge", "feedOne", "(I)V"⟩, 18) := ⟨⟨by decide +kernel, by decide +kernel⟩, List.mem_of_getElem? (i := 24) (by decide +kernel), List.mem_of_getElem? (i := 442) (by decide +kernel), List.mem_of_getElem? (i := 443) (by decide +kernel)⟩
theorem lw_p11 : lw_okq (⟨"HornBridge$Tokens", "step", "()V"⟩, 12) := ⟨⟨by decide +kernel, by decide +kernel⟩, List.mem_of_getElem? (i := 452) (by decide +kernel), List.mem_of_getElem? (i := 461) (by decide +kernel), List.mem_of_getElem? (i := 462) (by decide +kernel)⟩
theorem lw_p12 : lw_okq (⟨"HornBridge$Tokens", "stepWord", "()V"⟩, 12) := ⟨⟨by decide +kernel, by decide +kernel⟩, List.mem_of_getElem? (i := 452) (by decide +kernel), List.mem_of_getElem? (i := 465) (by decide +kernel), List.mem_of_getElem? (i := 466) (by decide +kernel)⟩
theorem lw_p13 : lw_okq (⟨"HornBridge$Tokens", "stepNumber", "()V"⟩, 12) := ⟨⟨by decide +kernel, by decide +kernel⟩, List.mem_of_getElem? (i := 452) (by decide +kernel), List.mem_of_getElem? (i := 472) (by decide +kernel), List.mem_of_getElem? (i := 473) (by decide +kernel)⟩
theorem lw_p14 : lw_okq (⟨"HornBridge$RiverReader", "readAll", "()Z"⟩, 8) := ⟨⟨by decide +kernel, by decide +kernel⟩, List.mem_of_getElem? (i := 450) (by decide +kernel), List.mem_of_getElem? (i := 558) (by decide +kernel), List.mem_of_getElem? (i := 559) (by decide +kernel)⟩
theorem lw_p15 : lw_okq (⟨"HornBridge$RiverReader", "readPort", "()Z"⟩, 8) := ⟨⟨by decide +kernel, by decide +kernel⟩, List.mem_of_getElem? (i := 450) (by decide +kernel), List.mem_of_getElem? (i := 564) (by decide +kernel), List.mem_of_getElem? (i := 565) (by decide +kernel)⟩
def lw_privs_1 : List (MethodName × Nat) := [(⟨"HornBridge", "isTray", "(I)Z"⟩, 18), (⟨"HornBridge", "deny", "(I)Z"⟩, 18), (⟨"HornBridge$Tray", "lay", "(II)V"⟩, 3), (⟨"HornBridge", "grant", "()Z"⟩, 18), (⟨"HornBridge", "wrongPlace", "(II)I"⟩, 18), (⟨"HornBridge$Tray", "isMissing", "()Z"⟩, 3), (⟨"HornBridge$Tray", "hasStretch", "(II)Z"⟩, 3), (⟨"HornBridge$Tray", "put", "(IJ)V"⟩, 3), (⟨"HornBridge", "refuse", "(I)I"⟩, 18), (⟨"HornBridge", "answerLong", "(J)J"⟩, 18), (⟨"HornBridge", "feedOne", "(I)V"⟩, 18), (⟨"HornBridge$Tokens", "step", "()V"⟩, 12), (⟨"HornBridge$Tokens", "stepWord", "()V"⟩, 12), (⟨"HornBridge$Tokens", "stepNumber", "()V"⟩, 12), (⟨"HornBridge$RiverReader", "readAll", "()Z"⟩, 8), (⟨"HornBridge$RiverReader", "readPort", "()Z"⟩, 8)]
theorem lw_r1 : ∀ q ∈ lw_privs_1, lw_okq q := List.forall_mem_cons.mpr ⟨lw_p0, List.forall_mem_cons.mpr ⟨lw_p1, List.forall_mem_cons.mpr ⟨lw_p2, List.forall_mem_cons.mpr ⟨lw_p3, List.forall_mem_cons.mpr ⟨lw_p4, List.forall_mem_cons.mpr ⟨lw_p5, List.forall_mem_cons.mpr ⟨lw_p6, List.forall_mem_cons.mpr ⟨lw_p7, List.forall_mem_cons.mpr ⟨lw_p8, List.forall_mem_cons.mpr ⟨lw_p9, List.forall_mem_cons.mpr ⟨lw_p10, List.forall_mem_cons.mpr ⟨lw_p11, List.forall_mem_cons.mpr ⟨lw_p12, List.forall_mem_cons.mpr ⟨lw_p13, List.forall_mem_cons.mpr ⟨lw_p14, List.forall_mem_cons.mpr ⟨lw_p15, fun _ h => absurd h List.not_mem_nil⟩⟩⟩⟩⟩⟩⟩⟩⟩⟩⟩⟩⟩⟩⟩⟩
theorem lw_p16 : lw_okq (⟨"HornBridge$Tokens", "refuseToken", "(I)Z"⟩, 12) := ⟨⟨by decide +kernel, by decide +kernel⟩, List.mem_of_getElem? (i := 452) (by decide +kernel), List.mem_of_getElem? (i := 568) (by decide +kernel), List.mem_of_getElem? (i := 569) (by decide +kernel)⟩
theorem lw_p17 : lw_okq (⟨"HornBridge$RiverReader", "takeNewName", "()Z"⟩, 8) := ⟨⟨by decide +kernel, by decide +kernel⟩, List.mem_of_getElem? (i := 450) (by decide +kernel), List.mem_of_getElem? (i := 573) (by decide +kernel), List.mem_of_getElem? (i := 574) (by decide +kernel)⟩
theorem lw_p18 : lw_okq (⟨"HornBridge$Tokens", "isName", "()Z"⟩, 12) := ⟨⟨by decide +kernel, by decide +kernel⟩, List.mem_of_getElem? (i := 452) (by decide +kernel), List.mem_of_getElem? (i := 577) (by decide +kernel), List.mem_of_getElem? (i := 578) (by decide +kernel)⟩
theorem lw_p19 : lw_okq (⟨"HornBridge$Tokens", "takeKeyword", "(LHornBridge$Keyword;)Z"⟩, 12) := ⟨⟨by decide +kernel, by decide +kernel⟩, List.mem_of_getElem? (i := 452) (by decide +kernel), List.mem_of_getElem? (i := 583) (by decide +kernel), List.mem_of_getElem? (i := 584) (by decide +kernel)⟩
theorem lw_p20 : lw_okq (⟨"HornBridge$Tokens", "isBlasts", "()Z"⟩, 12) := ⟨⟨by decide +kernel, by decide +kernel⟩, List.mem_of_getElem? (i := 452) (by decide +kernel), List.mem_of_getElem? (i := 588) (by decide +kernel), List.mem_of_getElem? (i := 589) (by decide +kernel)⟩
theorem lw_p21 : lw_okq (⟨"HornBridge$RiverReader", "readTurns", "()Z"⟩, 8) := ⟨⟨by decide +kernel, by decide +kernel⟩, List.mem_of_getElem? (i := 450) (by decide +kernel), List.mem_of_getElem? (i := 600) (by decide +kernel), List.mem_of_getElem? (i := 601) (by decide +kernel)⟩
theorem lw_p22 : lw_okq (⟨"HornBridge$Tokens", "takeNumber", "(II)Z"⟩, 12) := ⟨⟨by decide +kernel, by decide +kernel⟩, List.mem_of_getElem? (i := 452) (by decide +kernel), List.mem_of_getElem? (i := 604) (by decide +kernel), List.mem_of_getElem? (i := 605) (by decide +kernel)⟩
theorem lw_p23 : lw_okq (⟨"HornBridge$RiverReader", "readFrost", "()Z"⟩, 8) := ⟨⟨by decide +kernel, by decide +kernel⟩, List.mem_of_getElem? (i := 450) (by decide +kernel), List.mem_of_getElem? (i := 610) (by decide +kernel), List.mem_of_getElem? (i := 611) (by decide +kernel)⟩
theorem lw_p24 : lw_okq (⟨"HornBridge$RiverReader", "readEcho", "()Z"⟩, 8) := ⟨⟨by decide +kernel, by decide +kernel⟩, List.mem_of_getElem? (i := 450) (by decide +kernel), List.mem_of_getElem? (i := 618) (by decide +kernel), List.mem_of_getElem? (i := 619) (by decide +kernel)⟩
theorem lw_p25 : lw_okq (⟨"HornBridge$RiverReader", "readShip", "()Z"⟩, 8) := ⟨⟨by decide +kernel, by decide +kernel⟩, List.mem_of_getElem? (i := 450) (by decide +kernel), List.mem_of_getElem? (i := 624) (by decide +kernel), List.mem_of_getElem? (i := 625) (by decide +kernel)⟩
theorem lw_p26 : lw_okq (⟨"HornBridge$RiverReader", "portNamed", "(J)I"⟩, 8) := ⟨⟨by decide +kernel, by decide +kernel⟩, List.mem_of_getElem? (i := 450) (by decide +kernel), List.mem_of_getElem? (i := 630) (by decide +kernel), List.mem_of_getElem? (i := 631) (by decide +kernel)⟩
theorem lw_p27 : lw_okq (⟨"HornBridge$RiverReader", "readComing", "(LHornBridge$Lane;)Z"⟩, 8) := ⟨⟨by decide +kernel, by decide +kernel⟩, List.mem_of_getElem? (i := 450) (by decide +kernel), List.mem_of_getElem? (i := 634) (by decide +kernel), List.mem_of_getElem? (i := 635) (by decide +kernel)⟩
theorem lw_p28 : lw_okq (⟨"HornBridge$Lane", "put", "(IIIIIZ)V"⟩, 6) := ⟨⟨by decide +kernel, by decide +kernel⟩, List.mem_of_getElem? (i := 40) (by decide +kernel), List.mem_of_getElem? (i := 644) (by decide +kernel), List.mem_of_getElem? (i := 645) (by decide +kernel)⟩
theorem lw_p29 : lw_okq (⟨"HornBridge$RiverReader", "readCart", "()Z"⟩, 8) := ⟨⟨by decide +kernel, by decide +kernel⟩, List.mem_of_getElem? (i := 450) (by decide +kernel), List.mem_of_getElem? (i := 652) (by decide +kernel), List.mem_of_getElem? (i := 653) (by decide +kernel)⟩
theorem lw_p30 : lw_okq (⟨"HornBridge$Tokens", "takeSign", "(C)Z"⟩, 12) := ⟨⟨by decide +kernel, by decide +kernel⟩, List.mem_of_getElem? (i := 452) (by decide +kernel), List.mem_of_getElem? (i := 656) (by decide +kernel), List.mem_of_getElem? (i := 657) (by decide +kernel)⟩
theorem lw_p31 : lw_okq (⟨"HornBridge$Tokens", "isSignOf", "(C)Z"⟩, 12) := ⟨⟨by decide +kernel, by decide +kernel⟩, List.mem_of_getElem? (i := 452) (by decide +kernel), List.mem_of_getElem? (i := 660) (by decide +kernel), List.mem_of_getElem? (i := 661) (by decide +kernel)⟩
def lw_privs_2 : List (MethodName × Nat) := [(⟨"HornBridge$Tokens", "refuseToken", "(I)Z"⟩, 12), (⟨"HornBridge$RiverReader", "takeNewName", "()Z"⟩, 8), (⟨"HornBridge$Tokens", "isName", "()Z"⟩, 12), (⟨"HornBridge$Tokens", "takeKeyword", "(LHornBridge$Keyword;)Z"⟩, 12), (⟨"HornBridge$Tokens", "isBlasts", "()Z"⟩, 12), (⟨"HornBridge$RiverReader", "readTurns", "()Z"⟩, 8), (⟨"HornBridge$Tokens", "takeNumber", "(II)Z"⟩, 12), (⟨"HornBridge$RiverReader", "readFrost", "()Z"⟩, 8), (⟨"HornBridge$RiverReader", "readEcho", "()Z"⟩, 8), (⟨"HornBridge$RiverReader", "readShip", "()Z"⟩, 8), (⟨"HornBridge$RiverReader", "portNamed", "(J)I"⟩, 8), (⟨"HornBridge$RiverReader", "readComing", "(LHornBridge$Lane;)Z"⟩, 8), (⟨"HornBridge$Lane", "put", "(IIIIIZ)V"⟩, 6), (⟨"HornBridge$RiverReader", "readCart", "()Z"⟩, 8), (⟨"HornBridge$Tokens", "takeSign", "(C)Z"⟩, 12), (⟨"HornBridge$Tokens", "isSignOf", "(C)Z"⟩, 12)]
theorem lw_r2 : ∀ q ∈ lw_privs_2, lw_okq q := List.forall_mem_cons.mpr ⟨lw_p16, List.forall_mem_cons.mpr ⟨lw_p17, List.forall_mem_cons.mpr ⟨lw_p18, List.forall_mem_cons.mpr ⟨lw_p19, List.forall_mem_cons.mpr ⟨lw_p20, List.forall_mem_cons.mpr ⟨lw_p21, List.forall_mem_cons.mpr ⟨lw_p22, List.forall_mem_cons.mpr ⟨lw_p23, List.forall_mem_cons.mpr ⟨lw_p24, List.forall_mem_cons.mpr ⟨lw_p25, List.forall_mem_cons.mpr ⟨lw_p26, List.forall_mem_cons.mpr ⟨lw_p27, List.forall_mem_cons.mpr ⟨lw_p28, List.forall_mem_cons.mpr ⟨lw_p29, List.forall_mem_cons.mpr ⟨lw_p30, List.forall_mem_cons.mpr ⟨lw_p31, fun _ h => absurd h List.not_mem_nil⟩⟩⟩⟩⟩⟩⟩⟩⟩⟩⟩⟩⟩⟩⟩⟩
theorem lw_p32 : lw_okq (⟨"HornBridge", "endText", "(LHornBridge$Tokens;)V"⟩, 18) := ⟨⟨by decide +kernel, by decide +kernel⟩, List.mem_of_getElem? (i := 24) (by decide +kernel), List.mem_of_getElem? (i := 664) (by decide +kernel), List.mem_of_getElem? (i := 665) (by decide +kernel)⟩
theorem lw_p33 : lw_okq (⟨"HornBridge", "answer", "(I)I"⟩, 18) := ⟨⟨by decide +kernel, by decide +kernel⟩, List.mem_of_getElem? (i := 24) (by decide +kernel), List.mem_of_getElem? (i := 668) (by decide +kernel), List.mem_of_getElem? (i := 669) (by decide +kernel)⟩
theorem lw_p34 : lw_okq (⟨"HornBridge$RulesReader", "readAll", "()Z"⟩, 3) := ⟨⟨by decide +kernel, by decide +kernel⟩, List.mem_of_getElem? (i := 676) (by decide +kernel), List.mem_of_getElem? (i := 726) (by decide +kernel), List.mem_of_getElem? (i := 727) (by decide +kernel)⟩
theorem lw_p35 : lw_okq (⟨"HornBridge$RulesReader", "readRule", "()Z"⟩, 3) := ⟨⟨by decide +kernel, by decide +kernel⟩, List.mem_of_getElem? (i := 676) (by decide +kernel), List.mem_of_getElem? (i := 730) (by decide +kernel), List.mem_of_getElem? (i := 731) (by decide +kernel)⟩
theorem lw_p36 : lw_okq (⟨"HornBridge$RulesReader", "readEither", "(I)Z"⟩, 3) := ⟨⟨by decide +kernel, by decide +kernel⟩, List.mem_of_getElem? (i := 676) (by decide +kernel), List.mem_of_getElem? (i := 738) (by decide +kernel), List.mem_of_getElem? (i := 739) (by decide +kernel)⟩
theorem lw_p37 : lw_okq (⟨"HornBridge$RulesReader", "readBoth", "(I)Z"⟩, 3) := ⟨⟨by decide +kernel, by decide +kernel⟩, List.mem_of_getElem? (i := 676) (by decide +kernel), List.mem_of_getElem? (i := 742) (by decide +kernel), List.mem_of_getElem? (i := 743) (by decide +kernel)⟩
theorem lw_p38 : lw_okq (⟨"HornBridge$RulesReader", "readOne", "(I)Z"⟩, 3) := ⟨⟨by decide +kernel, by decide +kernel⟩, List.mem_of_getElem? (i := 676) (by decide +kernel), List.mem_of_getElem? (i := 746) (by decide +kernel), List.mem_of_getElem? (i := 747) (by decide +kernel)⟩
theorem lw_p39 : lw_okq (⟨"HornBridge$RulesReader", "factTold", "()I"⟩, 3) := ⟨⟨by decide +kernel, by decide +kernel⟩, List.mem_of_getElem? (i := 676) (by decide +kernel), List.mem_of_getElem? (i := 753) (by decide +kernel), List.mem_of_getElem? (i := 754) (by decide +kernel)⟩
theorem lw_p40 : lw_okq (⟨"HornBridge$RulesReader", "readNested", "(I)Z"⟩, 3) := ⟨⟨by decide +kernel, by decide +kernel⟩, List.mem_of_getElem? (i := 676) (by decide +kernel), List.mem_of_getElem? (i := 771) (by decide +kernel), List.mem_of_getElem? (i := 772) (by decide +kernel)⟩
theorem lw_p41 : lw_okq (⟨"HornBridge$Rules", "addStep", "(III)V"⟩, 7) := ⟨⟨by decide +kernel, by decide +kernel⟩, List.mem_of_getElem? (i := 677) (by decide +kernel), List.mem_of_getElem? (i := 777) (by decide +kernel), List.mem_of_getElem? (i := 778) (by decide +kernel)⟩
theorem lw_p42 : lw_okq (⟨"HornBridge$RulesReader", "readCase", "(I)Z"⟩, 3) := ⟨⟨by decide +kernel, by decide +kernel⟩, List.mem_of_getElem? (i := 676) (by decide +kernel), List.mem_of_getElem? (i := 781) (by decide +kernel), List.mem_of_getElem? (i := 782) (by decide +kernel)⟩
theorem lw_p43 : lw_okq (⟨"HornBridge$RulesReader", "comparesTold", "()I"⟩, 3) := ⟨⟨by decide +kernel, by decide +kernel⟩, List.mem_of_getElem? (i := 676) (by decide +kernel), List.mem_of_getElem? (i := 785) (by decide +kernel), List.mem_of_getElem? (i := 786) (by decide +kernel)⟩
theorem lw_p44 : lw_okq (⟨"HornBridge$RulesReader", "actTold", "()I"⟩, 3) := ⟨⟨by decide +kernel, by decide +kernel⟩, List.mem_of_getElem? (i := 676) (by decide +kernel), List.mem_of_getElem? (i := 796) (by decide +kernel), List.mem_of_getElem? (i := 797) (by decide +kernel)⟩
theorem lw_p45 : lw_okq (⟨"HornBridge$Rules", "endRule", "(I)V"⟩, 7) := ⟨⟨by decide +kernel, by decide +kernel⟩, List.mem_of_getElem? (i := 677) (by decide +kernel), List.mem_of_getElem? (i := 802) (by decide +kernel), List.mem_of_getElem? (i := 803) (by decide +kernel)⟩
theorem lw_p46 : lw_okq (⟨"HornBridge", "isShip", "(I)Z"⟩, 18) := ⟨⟨by decide +kernel, by decide +kernel⟩, List.mem_of_getElem? (i := 24) (by decide +kernel), List.mem_of_getElem? (i := 818) (by decide +kernel), List.mem_of_getElem? (i := 819) (by decide +kernel)⟩
theorem lw_p47 : lw_okq (⟨"HornBridge", "isCart", "(I)Z"⟩, 18) := ⟨⟨by decide +kernel, by decide +kernel⟩, List.mem_of_getElem? (i := 24) (by decide +kernel), List.mem_of_getElem? (i := 826) (by decide +kernel), List.mem_of_getElem? (i := 827) (by decide +kernel)⟩
def lw_privs_3 : List (MethodName × Nat) := [(⟨"HornBridge", "endText", "(LHornBridge$Tokens;)V"⟩, 18), (⟨"HornBridge", "answer", "(I)I"⟩, 18), (⟨"HornBridge$RulesReader", "readAll", "()Z"⟩, 3), (⟨"HornBridge$RulesReader", "readRule", "()Z"⟩, 3), (⟨"HornBridge$RulesReader", "readEither", "(I)Z"⟩, 3), (⟨"HornBridge$RulesReader", "readBoth", "(I)Z"⟩, 3), (⟨"HornBridge$RulesReader", "readOne", "(I)Z"⟩, 3), (⟨"HornBridge$RulesReader", "factTold", "()I"⟩, 3), (⟨"HornBridge$RulesReader", "readNested", "(I)Z"⟩, 3), (⟨"HornBridge$Rules", "addStep", "(III)V"⟩, 7), (⟨"HornBridge$RulesReader", "readCase", "(I)Z"⟩, 3), (⟨"HornBridge$RulesReader", "comparesTold", "()I"⟩, 3), (⟨"HornBridge$RulesReader", "actTold", "()I"⟩, 3), (⟨"HornBridge$Rules", "endRule", "(I)V"⟩, 7), (⟨"HornBridge", "isShip", "(I)Z"⟩, 18), (⟨"HornBridge", "isCart", "(I)Z"⟩, 18)]
theorem lw_r3 : ∀ q ∈ lw_privs_3, lw_okq q := List.forall_mem_cons.mpr ⟨lw_p32, List.forall_mem_cons.mpr ⟨lw_p33, List.forall_mem_cons.mpr ⟨lw_p34, List.forall_mem_cons.mpr ⟨lw_p35, List.forall_mem_cons.mpr ⟨lw_p36, List.forall_mem_cons.mpr ⟨lw_p37, List.forall_mem_cons.mpr ⟨lw_p38, List.forall_mem_cons.mpr ⟨lw_p39, List.forall_mem_cons.mpr ⟨lw_p40, List.forall_mem_cons.mpr ⟨lw_p41, List.forall_mem_cons.mpr ⟨lw_p42, List.forall_mem_cons.mpr ⟨lw_p43, List.forall_mem_cons.mpr ⟨lw_p44, List.forall_mem_cons.mpr ⟨lw_p45, List.forall_mem_cons.mpr ⟨lw_p46, List.forall_mem_cons.mpr ⟨lw_p47, fun _ h => absurd h List.not_mem_nil⟩⟩⟩⟩⟩⟩⟩⟩⟩⟩⟩⟩⟩⟩⟩⟩
theorem lw_p48 : lw_okq (⟨"HornBridge$Crossing", "takeShips", "(LHornBridge$River;III)V"⟩, 12) := ⟨⟨by decide +kernel, by decide +kernel⟩, List.mem_of_getElem? (i := 180) (by decide +kernel), List.mem_of_getElem? (i := 834) (by decide +kernel), List.mem_of_getElem? (i := 835) (by decide +kernel)⟩
theorem lw_p49 : lw_okq (⟨"HornBridge$Lane", "clear", "()V"⟩, 6) := ⟨⟨by decide +kernel, by decide +kernel⟩, List.mem_of_getElem? (i := 40) (by decide +kernel), List.mem_of_getElem? (i := 838) (by decide +kernel), List.mem_of_getElem? (i := 839) (by decide +kernel)⟩
theorem lw_p50 : lw_okq (⟨"HornBridge$Lane", "join", "(LHornBridge$Lane;II)V"⟩, 6) := ⟨⟨by decide +kernel, by decide +kernel⟩, List.mem_of_getElem? (i := 40) (by decide +kernel), List.mem_of_getElem? (i := 842) (by decide +kernel), List.mem_of_getElem? (i := 843) (by decide +kernel)⟩
theorem lw_p51 : lw_okq (⟨"HornBridge$Crossing", "takeCarts", "(LHornBridge$River;I)V"⟩, 12) := ⟨⟨by decide +kernel, by decide +kernel⟩, List.mem_of_getElem? (i := 180) (by decide +kernel), List.mem_of_getElem? (i := 851) (by decide +kernel), List.mem_of_getElem? (i := 852) (by decide +kernel)⟩
theorem lw_p52 : lw_okq (⟨"HornBridge", "isPort", "(I)Z"⟩, 18) := ⟨⟨by decide +kernel, by decide +kernel⟩, List.mem_of_getElem? (i := 24) (by decide +kernel), List.mem_of_getElem? (i := 859) (by decide +kernel), List.mem_of_getElem? (i := 860) (by decide +kernel)⟩
theorem lw_p53 : lw_okq (⟨"HornBridge$River", "heardOf", "(I)J"⟩, 10) := ⟨⟨by decide +kernel, by decide +kernel⟩, List.mem_of_getElem? (i := 34) (by decide +kernel), List.mem_of_getElem? (i := 867) (by decide +kernel), List.mem_of_getElem? (i := 868) (by decide +kernel)⟩
theorem lw_p54 : lw_okq (⟨"HornBridge$River", "bothHeard", "(III)J"⟩, 10) := ⟨⟨by decide +kernel, by decide +kernel⟩, List.mem_of_getElem? (i := 34) (by decide +kernel), List.mem_of_getElem? (i := 878) (by decide +kernel), List.mem_of_getElem? (i := 879) (by decide +kernel)⟩
theorem lw_p55 : lw_okq (⟨"HornBridge", "addReading", "(III)V"⟩, 18) := ⟨⟨by decide +kernel, by decide +kernel⟩, List.mem_of_getElem? (i := 24) (by decide +kernel), List.mem_of_getElem? (i := 908) (by decide +kernel), List.mem_of_getElem? (i := 909) (by decide +kernel)⟩
theorem lw_p56 : lw_okq (⟨"HornBridge$River", "leastBeats", "(II)I"⟩, 10) := ⟨⟨by decide +kernel, by decide +kernel⟩, List.mem_of_getElem? (i := 34) (by decide +kernel), List.mem_of_getElem? (i := 912) (by decide +kernel), List.mem_of_getElem? (i := 913) (by decide +kernel)⟩
theorem lw_p57 : lw_okq (⟨"HornBridge$River", "countReadings", "(JI)I"⟩, 10) := ⟨⟨by decide +kernel, by decide +kernel⟩, List.mem_of_getElem? (i := 34) (by decide +kernel), List.mem_of_getElem? (i := 924) (by decide +kernel), List.mem_of_getElem? (i := 925) (by decide +kernel)⟩
theorem lw_p58 : lw_okq (⟨"HornBridge$River", "countBeats", "(JII)I"⟩, 10) := ⟨⟨by decide +kernel, by decide +kernel⟩, List.mem_of_getElem? (i := 34) (by decide +kernel), List.mem_of_getElem? (i := 928) (by decide +kernel), List.mem_of_getElem? (i := 929) (by decide +kernel)⟩
theorem lw_p59 : lw_okq (⟨"HornBridge", "tellFraction", "(II)V"⟩, 18) := ⟨⟨by decide +kernel, by decide +kernel⟩, List.mem_of_getElem? (i := 24) (by decide +kernel), List.mem_of_getElem? (i := 934) (by decide +kernel), List.mem_of_getElem? (i := 935) (by decide +kernel)⟩
theorem lw_p60 : lw_okq (⟨"HornBridge$River", "couplesAlike", "(I)I"⟩, 10) := ⟨⟨by decide +kernel, by decide +kernel⟩, List.mem_of_getElem? (i := 34) (by decide +kernel), List.mem_of_getElem? (i := 945) (by decide +kernel), List.mem_of_getElem? (i := 946) (by decide +kernel)⟩
theorem lw_p61 : lw_okq (⟨"HornBridge$CodeSearch", "find", "(III)Z"⟩, 7) := ⟨⟨by decide +kernel, by decide +kernel⟩, List.mem_of_getElem? (i := 147) (by decide +kernel), List.mem_of_getElem? (i := 953) (by decide +kernel), List.mem_of_getElem? (i := 954) (by decide +kernel)⟩
theorem lw_p62 : lw_okq (⟨"HornBridge$CodeSearch", "extend", "(IIII)Z"⟩, 7) := ⟨⟨by decide +kernel, by decide +kernel⟩, List.mem_of_getElem? (i := 147) (by decide +kernel), List.mem_of_getElem? (i := 959) (by decide +kernel), List.mem_of_getElem? (i := 960) (by decide +kernel)⟩
theorem lw_p63 : lw_okq (⟨"HornBridge$CodeSearch", "fitsLast", "(I)Z"⟩, 7) := ⟨⟨by decide +kernel, by decide +kernel⟩, List.mem_of_getElem? (i := 147) (by decide +kernel), List.mem_of_getElem? (i := 963) (by decide +kernel), List.mem_of_getElem? (i := 964) (by decide +kernel)⟩
def lw_privs_4 : List (MethodName × Nat) := [(⟨"HornBridge$Crossing", "takeShips", "(LHornBridge$River;III)V"⟩, 12), (⟨"HornBridge$Lane", "clear", "()V"⟩, 6), (⟨"HornBridge$Lane", "join", "(LHornBridge$Lane;II)V"⟩, 6), (⟨"HornBridge$Crossing", "takeCarts", "(LHornBridge$River;I)V"⟩, 12), (⟨"HornBridge", "isPort", "(I)Z"⟩, 18), (⟨"HornBridge$River", "heardOf", "(I)J"⟩, 10), (⟨"HornBridge$River", "bothHeard", "(III)J"⟩, 10), (⟨"HornBridge", "addReading", "(III)V"⟩, 18), (⟨"HornBridge$River", "leastBeats", "(II)I"⟩, 10), (⟨"HornBridge$River", "countReadings", "(JI)I"⟩, 10), (⟨"HornBridge$River", "countBeats", "(JII)I"⟩, 10), (⟨"HornBridge", "tellFraction", "(II)V"⟩, 18), (⟨"HornBridge$River", "couplesAlike", "(I)I"⟩, 10), (⟨"HornBridge$CodeSearch", "find", "(III)Z"⟩, 7), (⟨"HornBridge$CodeSearch", "extend", "(IIII)Z"⟩, 7), (⟨"HornBridge$CodeSearch", "fitsLast", "(I)Z"⟩, 7)]
theorem lw_r4 : ∀ q ∈ lw_privs_4, lw_okq q := List.forall_mem_cons.mpr ⟨lw_p48, List.forall_mem_cons.mpr ⟨lw_p49, List.forall_mem_cons.mpr ⟨lw_p50, List.forall_mem_cons.mpr ⟨lw_p51, List.forall_mem_cons.mpr ⟨lw_p52, List.forall_mem_cons.mpr ⟨lw_p53, List.forall_mem_cons.mpr ⟨lw_p54, List.forall_mem_cons.mpr ⟨lw_p55, List.forall_mem_cons.mpr ⟨lw_p56, List.forall_mem_cons.mpr ⟨lw_p57, List.forall_mem_cons.mpr ⟨lw_p58, List.forall_mem_cons.mpr ⟨lw_p59, List.forall_mem_cons.mpr ⟨lw_p60, List.forall_mem_cons.mpr ⟨lw_p61, List.forall_mem_cons.mpr ⟨lw_p62, List.forall_mem_cons.mpr ⟨lw_p63, fun _ h => absurd h List.not_mem_nil⟩⟩⟩⟩⟩⟩⟩⟩⟩⟩⟩⟩⟩⟩⟩⟩
theorem lw_p64 : lw_okq (⟨"HornBridge$CodeSearch", "heardInRow", "(I)J"⟩, 7) := ⟨⟨by decide +kernel, by decide +kernel⟩, List.mem_of_getElem? (i := 147) (by decide +kernel), List.mem_of_getElem? (i := 967) (by decide +kernel), List.mem_of_getElem? (i := 968) (by decide +kernel)⟩
theorem lw_p65 : lw_okq (⟨"HornBridge$CodeSearch", "blastsTold", "()I"⟩, 7) := ⟨⟨by decide +kernel, by decide +kernel⟩, List.mem_of_getElem? (i := 147) (by decide +kernel), List.mem_of_getElem? (i := 972) (by decide +kernel), List.mem_of_getElem? (i := 973) (by decide +kernel)⟩
theorem lw_p66 : lw_okq (⟨"HornBridge$CodeSearch", "callTold", "(I)J"⟩, 7) := ⟨⟨by decide +kernel, by decide +kernel⟩, List.mem_of_getElem? (i := 147) (by decide +kernel), List.mem_of_getElem? (i := 980) (by decide +kernel), List.mem_of_getElem? (i := 981) (by decide +kernel)⟩
theorem lw_p67 : lw_okq (⟨"HornBridge", "leastAsTold", "()I"⟩, 18) := ⟨⟨by decide +kernel, by decide +kernel⟩, List.mem_of_getElem? (i := 24) (by decide +kernel), List.mem_of_getElem? (i := 1012) (by decide +kernel), List.mem_of_getElem? (i := 1013) (by decide +kernel)⟩
theorem lw_p68 : lw_okq (⟨"HornBridge$Crossing", "takeAll", "(LHornBridge$River;)V"⟩, 12) := ⟨⟨by decide +kernel, by decide +kernel⟩, List.mem_of_getElem? (i := 180) (by decide +kernel), List.mem_of_getElem? (i := 1016) (by decide +kernel), List.mem_of_getElem? (i := 1017) (by decide +kernel)⟩
theorem lw_p69 : lw_okq (⟨"HornBridge$Crossing", "leastWaits", "()I"⟩, 12) := ⟨⟨by decide +kernel, by decide +kernel⟩, List.mem_of_getElem? (i := 180) (by decide +kernel), List.mem_of_getElem? (i := 1022) (by decide +kernel), List.mem_of_getElem? (i := 1023) (by decide +kernel)⟩
theorem lw_p70 : lw_okq (⟨"HornBridge$Crossing", "search", "(IZIII)V"⟩, 12) := ⟨⟨by decide +kernel, by decide +kernel⟩, List.mem_of_getElem? (i := 180) (by decide +kernel), List.mem_of_getElem? (i := 1026) (by decide +kernel), List.mem_of_getElem? (i := 1027) (by decide +kernel)⟩
theorem lw_p71 : lw_okq (⟨"HornBridge$Crossing", "turnEnd", "(I)I"⟩, 12) := ⟨⟨by decide +kernel, by decide +kernel⟩, List.mem_of_getElem? (i := 180) (by decide +kernel), List.mem_of_getElem? (i := 1030) (by decide +kernel), List.mem_of_getElem? (i := 1031) (by decide +kernel)⟩
theorem lw_p72 : lw_okq (⟨"HornBridge$River", "turnLength", "(II)I"⟩, 10) := ⟨⟨by decide +kernel, by decide +kernel⟩, List.mem_of_getElem? (i := 34) (by decide +kernel), List.mem_of_getElem? (i := 1034) (by decide +kernel), List.mem_of_getElem? (i := 1035) (by decide +kernel)⟩
theorem lw_p73 : lw_okq (⟨"HornBridge", "answerWaits", "(I)I"⟩, 18) := ⟨⟨by decide +kernel, by decide +kernel⟩, List.mem_of_getElem? (i := 24) (by decide +kernel), List.mem_of_getElem? (i := 1045) (by decide +kernel), List.mem_of_getElem? (i := 1046) (by decide +kernel)⟩
theorem lw_p74 : lw_okq (⟨"HornBridge$Crossing", "layPlan", "()Z"⟩, 12) := ⟨⟨by decide +kernel, by decide +kernel⟩, List.mem_of_getElem? (i := 180) (by decide +kernel), List.mem_of_getElem? (i := 1054) (by decide +kernel), List.mem_of_getElem? (i := 1055) (by decide +kernel)⟩
theorem lw_p75 : lw_okq (⟨"HornBridge$Crossing", "shipMayBegin", "(IIII)Z"⟩, 12) := ⟨⟨by decide +kernel, by decide +kernel⟩, List.mem_of_getElem? (i := 180) (by decide +kernel), List.mem_of_getElem? (i := 1059) (by decide +kernel), List.mem_of_getElem? (i := 1060) (by decide +kernel)⟩
theorem lw_p76 : lw_okq (⟨"HornBridge$Crossing", "canEndWithin", "(IZIII)Z"⟩, 12) := ⟨⟨by decide +kernel, by decide +kernel⟩, List.mem_of_getElem? (i := 180) (by decide +kernel), List.mem_of_getElem? (i := 1063) (by decide +kernel), List.mem_of_getElem? (i := 1064) (by decide +kernel)⟩
theorem lw_p77 : lw_okq (⟨"HornBridge$Crossing", "addAct", "(III)V"⟩, 12) := ⟨⟨by decide +kernel, by decide +kernel⟩, List.mem_of_getElem? (i := 180) (by decide +kernel), List.mem_of_getElem? (i := 1067) (by decide +kernel), List.mem_of_getElem? (i := 1068) (by decide +kernel)⟩
theorem lw_p78 : lw_okq (⟨"HornBridge$Crossing", "cartMayBegin", "(IIII)Z"⟩, 12) := ⟨⟨by decide +kernel, by decide +kernel⟩, List.mem_of_getElem? (i := 180) (by decide +kernel), List.mem_of_getElem? (i := 1071) (by decide +kernel), List.mem_of_getElem? (i := 1072) (by decide +kernel)⟩
theorem lw_p79 : lw_okq (⟨"HornBridge$Crossing", "tellPlan", "()V"⟩, 12) := ⟨⟨by decide +kernel, by decide +kernel⟩, List.mem_of_getElem? (i := 180) (by decide +kernel), List.mem_of_getElem? (i := 1075) (by decide +kernel), List.mem_of_getElem? (i := 1076) (by decide +kernel)⟩
def lw_privs_5 : List (MethodName × Nat) := [(⟨"HornBridge$CodeSearch", "heardInRow", "(I)J"⟩, 7), (⟨"HornBridge$CodeSearch", "blastsTold", "()I"⟩, 7), (⟨"HornBridge$CodeSearch", "callTold", "(I)J"⟩, 7), (⟨"HornBridge", "leastAsTold", "()I"⟩, 18), (⟨"HornBridge$Crossing", "takeAll", "(LHornBridge$River;)V"⟩, 12), (⟨"HornBridge$Crossing", "leastWaits", "()I"⟩, 12), (⟨"HornBridge$Crossing", "search", "(IZIII)V"⟩, 12), (⟨"HornBridge$Crossing", "turnEnd", "(I)I"⟩, 12), (⟨"HornBridge$River", "turnLength", "(II)I"⟩, 10), (⟨"HornBridge", "answerWaits", "(I)I"⟩, 18), (⟨"HornBridge$Crossing", "layPlan", "()Z"⟩, 12), (⟨"HornBridge$Crossing", "shipMayBegin", "(IIII)Z"⟩, 12), (⟨"HornBridge$Crossing", "canEndWithin", "(IZIII)Z"⟩, 12), (⟨"HornBridge$Crossing", "addAct", "(III)V"⟩, 12), (⟨"HornBridge$Crossing", "cartMayBegin", "(IIII)Z"⟩, 12), (⟨"HornBridge$Crossing", "tellPlan", "()V"⟩, 12)]
theorem lw_r5 : ∀ q ∈ lw_privs_5, lw_okq q := List.forall_mem_cons.mpr ⟨lw_p64, List.forall_mem_cons.mpr ⟨lw_p65, List.forall_mem_cons.mpr ⟨lw_p66, List.forall_mem_cons.mpr ⟨lw_p67, List.forall_mem_cons.mpr ⟨lw_p68, List.forall_mem_cons.mpr ⟨lw_p69, List.forall_mem_cons.mpr ⟨lw_p70, List.forall_mem_cons.mpr ⟨lw_p71, List.forall_mem_cons.mpr ⟨lw_p72, List.forall_mem_cons.mpr ⟨lw_p73, List.forall_mem_cons.mpr ⟨lw_p74, List.forall_mem_cons.mpr ⟨lw_p75, List.forall_mem_cons.mpr ⟨lw_p76, List.forall_mem_cons.mpr ⟨lw_p77, List.forall_mem_cons.mpr ⟨lw_p78, List.forall_mem_cons.mpr ⟨lw_p79, fun _ h => absurd h List.not_mem_nil⟩⟩⟩⟩⟩⟩⟩⟩⟩⟩⟩⟩⟩⟩⟩⟩
theorem lw_p80 : lw_okq (⟨"HornBridge$Crossing", "allCanPass", "()Z"⟩, 12) := ⟨⟨by decide +kernel, by decide +kernel⟩, List.mem_of_getElem? (i := 180) (by decide +kernel), List.mem_of_getElem? (i := 1102) (by decide +kernel), List.mem_of_getElem? (i := 1103) (by decide +kernel)⟩
theorem lw_p81 : lw_okq (⟨"HornBridge$Crossing", "canPassWithin", "(I)Z"⟩, 12) := ⟨⟨by decide +kernel, by decide +kernel⟩, List.mem_of_getElem? (i := 180) (by decide +kernel), List.mem_of_getElem? (i := 1115) (by decide +kernel), List.mem_of_getElem? (i := 1116) (by decide +kernel)⟩
theorem lw_p82 : lw_okq (⟨"HornBridge$Crossing", "dearestByPlan", "(LHornBridge$River;)I"⟩, 12) := ⟨⟨by decide +kernel, by decide +kernel⟩, List.mem_of_getElem? (i := 180) (by decide +kernel), List.mem_of_getElem? (i := 1127) (by decide +kernel), List.mem_of_getElem? (i := 1128) (by decide +kernel)⟩
theorem lw_p83 : lw_okq (⟨"HornBridge$Crossing", "openedByPlan", "()I"⟩, 12) := ⟨⟨by decide +kernel, by decide +kernel⟩, List.mem_of_getElem? (i := 180) (by decide +kernel), List.mem_of_getElem? (i := 1138) (by decide +kernel), List.mem_of_getElem? (i := 1139) (by decide +kernel)⟩
theorem lw_p84 : lw_okq (⟨"HornBridge$Crossing", "busiestByPlan", "()I"⟩, 12) := ⟨⟨by decide +kernel, by decide +kernel⟩, List.mem_of_getElem? (i := 180) (by decide +kernel), List.mem_of_getElem? (i := 1146) (by decide +kernel), List.mem_of_getElem? (i := 1147) (by decide +kernel)⟩
theorem lw_p85 : lw_okq (⟨"HornBridge$Keeper", "spendDay", "(LHornBridge$River;LHornBridge$Rules;I)V"⟩, 17) := ⟨⟨by decide +kernel, by decide +kernel⟩, List.mem_of_getElem? (i := 231) (by decide +kernel), List.mem_of_getElem? (i := 1157) (by decide +kernel), List.mem_of_getElem? (i := 1158) (by decide +kernel)⟩
theorem lw_p86 : lw_okq (⟨"HornBridge$Keeper", "comeLater", "(LHornBridge$River;I)V"⟩, 17) := ⟨⟨by decide +kernel, by decide +kernel⟩, List.mem_of_getElem? (i := 231) (by decide +kernel), List.mem_of_getElem? (i := 1161) (by decide +kernel), List.mem_of_getElem? (i := 1162) (by decide +kernel)⟩
theorem lw_p87 : lw_okq (⟨"HornBridge$Keeper", "delay", "(I)I"⟩, 17) := ⟨⟨by decide +kernel, by decide +kernel⟩, List.mem_of_getElem? (i := 231) (by decide +kernel), List.mem_of_getElem? (i := 1166) (by decide +kernel), List.mem_of_getElem? (i := 1167) (by decide +kernel)⟩
theorem lw_p88 : lw_okq (⟨"HornBridge$Keeper", "endWhatIsOver", "()V"⟩, 17) := ⟨⟨by decide +kernel, by decide +kernel⟩, List.mem_of_getElem? (i := 231) (by decide +kernel), List.mem_of_getElem? (i := 1172) (by decide +kernel), List.mem_of_getElem? (i := 1173) (by decide +kernel)⟩
theorem lw_p89 : lw_okq (⟨"HornBridge$Keeper", "left", "()I"⟩, 17) := ⟨⟨by decide +kernel, by decide +kernel⟩, List.mem_of_getElem? (i := 231) (by decide +kernel), List.mem_of_getElem? (i := 1176) (by decide +kernel), List.mem_of_getElem? (i := 1177) (by decide +kernel)⟩
theorem lw_p90 : lw_okq (⟨"HornBridge$Keeper", "strikeSails", "()V"⟩, 17) := ⟨⟨by decide +kernel, by decide +kernel⟩, List.mem_of_getElem? (i := 231) (by decide +kernel), List.mem_of_getElem? (i := 1180) (by decide +kernel), List.mem_of_getElem? (i := 1181) (by decide +kernel)⟩
theorem lw_p91 : lw_okq (⟨"HornBridge$Keeper", "firstShipLeft", "()I"⟩, 17) := ⟨⟨by decide +kernel, by decide +kernel⟩, List.mem_of_getElem? (i := 231) (by decide +kernel), List.mem_of_getElem? (i := 1184) (by decide +kernel), List.mem_of_getElem? (i := 1185) (by decide +kernel)⟩
theorem lw_p92 : lw_okq (⟨"HornBridge$Keeper", "strikeIfDue", "(I)V"⟩, 17) := ⟨⟨by decide +kernel, by decide +kernel⟩, List.mem_of_getElem? (i := 231) (by decide +kernel), List.mem_of_getElem? (i := 1188) (by decide +kernel), List.mem_of_getElem? (i := 1189) (by decide +kernel)⟩
theorem lw_p93 : lw_okq (⟨"HornBridge$Keeper", "obey", "(LHornBridge$River;LHornBridge$Rules;)V"⟩, 17) := ⟨⟨by decide +kernel, by decide +kernel⟩, List.mem_of_getElem? (i := 231) (by decide +kernel), List.mem_of_getElem? (i := 1192) (by decide +kernel), List.mem_of_getElem? (i := 1193) (by decide +kernel)⟩
theorem lw_p94 : lw_okq (⟨"HornBridge$Keeper", "gatherFacts", "()V"⟩, 17) := ⟨⟨by decide +kernel, by decide +kernel⟩, List.mem_of_getElem? (i := 231) (by decide +kernel), List.mem_of_getElem? (i := 1196) (by decide +kernel), List.mem_of_getElem? (i := 1197) (by decide +kernel)⟩
theorem lw_p95 : lw_okq (⟨"HornBridge$Rules", "actBy", "([I)I"⟩, 7) := ⟨⟨by decide +kernel, by decide +kernel⟩, List.mem_of_getElem? (i := 677) (by decide +kernel), List.mem_of_getElem? (i := 1200) (by decide +kernel), List.mem_of_getElem? (i := 1201) (by decide +kernel)⟩
def lw_privs_6 : List (MethodName × Nat) := [(⟨"HornBridge$Crossing", "allCanPass", "()Z"⟩, 12), (⟨"HornBridge$Crossing", "canPassWithin", "(I)Z"⟩, 12), (⟨"HornBridge$Crossing", "dearestByPlan", "(LHornBridge$River;)I"⟩, 12), (⟨"HornBridge$Crossing", "openedByPlan", "()I"⟩, 12), (⟨"HornBridge$Crossing", "busiestByPlan", "()I"⟩, 12), (⟨"HornBridge$Keeper", "spendDay", "(LHornBridge$River;LHornBridge$Rules;I)V"⟩, 17), (⟨"HornBridge$Keeper", "comeLater", "(LHornBridge$River;I)V"⟩, 17), (⟨"HornBridge$Keeper", "delay", "(I)I"⟩, 17), (⟨"HornBridge$Keeper", "endWhatIsOver", "()V"⟩, 17), (⟨"HornBridge$Keeper", "left", "()I"⟩, 17), (⟨"HornBridge$Keeper", "strikeSails", "()V"⟩, 17), (⟨"HornBridge$Keeper", "firstShipLeft", "()I"⟩, 17), (⟨"HornBridge$Keeper", "strikeIfDue", "(I)V"⟩, 17), (⟨"HornBridge$Keeper", "obey", "(LHornBridge$River;LHornBridge$Rules;)V"⟩, 17), (⟨"HornBridge$Keeper", "gatherFacts", "()V"⟩, 17), (⟨"HornBridge$Rules", "actBy", "([I)I"⟩, 7)]
theorem lw_r6 : ∀ q ∈ lw_privs_6, lw_okq q := List.forall_mem_cons.mpr ⟨lw_p80, List.forall_mem_cons.mpr ⟨lw_p81, List.forall_mem_cons.mpr ⟨lw_p82, List.forall_mem_cons.mpr ⟨lw_p83, List.forall_mem_cons.mpr ⟨lw_p84, List.forall_mem_cons.mpr ⟨lw_p85, List.forall_mem_cons.mpr ⟨lw_p86, List.forall_mem_cons.mpr ⟨lw_p87, List.forall_mem_cons.mpr ⟨lw_p88, List.forall_mem_cons.mpr ⟨lw_p89, List.forall_mem_cons.mpr ⟨lw_p90, List.forall_mem_cons.mpr ⟨lw_p91, List.forall_mem_cons.mpr ⟨lw_p92, List.forall_mem_cons.mpr ⟨lw_p93, List.forall_mem_cons.mpr ⟨lw_p94, List.forall_mem_cons.mpr ⟨lw_p95, fun _ h => absurd h List.not_mem_nil⟩⟩⟩⟩⟩⟩⟩⟩⟩⟩⟩⟩⟩⟩⟩⟩
theorem lw_p96 : lw_okq (⟨"HornBridge$Rules", "holds", "(II[I)Z"⟩, 7) := ⟨⟨by decide +kernel, by decide +kernel⟩, List.mem_of_getElem? (i := 677) (by decide +kernel), List.mem_of_getElem? (i := 1204) (by decide +kernel), List.mem_of_getElem? (i := 1205) (by decide +kernel)⟩
theorem lw_p97 : lw_okq (⟨"HornBridge$Rules", "compares", "(I[I)Z"⟩, 7) := ⟨⟨by decide +kernel, by decide +kernel⟩, List.mem_of_getElem? (i := 677) (by decide +kernel), List.mem_of_getElem? (i := 1209) (by decide +kernel), List.mem_of_getElem? (i := 1210) (by decide +kernel)⟩
theorem lw_p98 : lw_okq (⟨"HornBridge$Keeper", "beginNext", "()V"⟩, 17) := ⟨⟨by decide +kernel, by decide +kernel⟩, List.mem_of_getElem? (i := 231) (by decide +kernel), List.mem_of_getElem? (i := 1214) (by decide +kernel), List.mem_of_getElem? (i := 1215) (by decide +kernel)⟩
theorem lw_p99 : lw_okq (⟨"HornBridge$Keeper", "begin", "(ILHornBridge$Lane;I)V"⟩, 17) := ⟨⟨by decide +kernel, by decide +kernel⟩, List.mem_of_getElem? (i := 231) (by decide +kernel), List.mem_of_getElem? (i := 1218) (by decide +kernel), List.mem_of_getElem? (i := 1219) (by decide +kernel)⟩
theorem lw_p100 : lw_okq (⟨"HornBridge$Keeper", "tellDay", "()V"⟩, 17) := ⟨⟨by decide +kernel, by decide +kernel⟩, List.mem_of_getElem? (i := 231) (by decide +kernel), List.mem_of_getElem? (i := 1222) (by decide +kernel), List.mem_of_getElem? (i := 1223) (by decide +kernel)⟩
theorem lw_p101 : lw_okq (⟨"HornBridge", "wrongSeeds", "(II)I"⟩, 18) := ⟨⟨by decide +kernel, by decide +kernel⟩, List.mem_of_getElem? (i := 24) (by decide +kernel), List.mem_of_getElem? (i := 1234) (by decide +kernel), List.mem_of_getElem? (i := 1235) (by decide +kernel)⟩
theorem lw_p102 : lw_okq (⟨"HornBridgeModel", "is", "(I)Z"⟩, 76) := ⟨⟨by decide +kernel, by decide +kernel⟩, List.mem_of_getElem? (i := 1251) (by decide +kernel), List.mem_of_getElem? (i := 1505) (by decide +kernel), List.mem_of_getElem? (i := 1506) (by decide +kernel)⟩
theorem lw_p103 : lw_okq (⟨"HornBridgeModel", "wrongPlace", "(II)I"⟩, 76) := ⟨⟨by decide +kernel, by decide +kernel⟩, List.mem_of_getElem? (i := 1251) (by decide +kernel), List.mem_of_getElem? (i := 1513) (by decide +kernel), List.mem_of_getElem? (i := 1514) (by decide +kernel)⟩
theorem lw_p104 : lw_okq (⟨"HornBridgeModel", "four", "(I)V"⟩, 76) := ⟨⟨by decide +kernel, by decide +kernel⟩, List.mem_of_getElem? (i := 1251) (by decide +kernel), List.mem_of_getElem? (i := 1533) (by decide +kernel), List.mem_of_getElem? (i := 1534) (by decide +kernel)⟩
theorem lw_p105 : lw_okq (⟨"HornBridgeModel", "begins", "(II)Z"⟩, 76) := ⟨⟨by decide +kernel, by decide +kernel⟩, List.mem_of_getElem? (i := 1251) (by decide +kernel), List.mem_of_getElem? (i := 1545) (by decide +kernel), List.mem_of_getElem? (i := 1546) (by decide +kernel)⟩
theorem lw_p106 : lw_okq (⟨"HornBridgeModel", "ahead", "()V"⟩, 76) := ⟨⟨by decide +kernel, by decide +kernel⟩, List.mem_of_getElem? (i := 1251) (by decide +kernel), List.mem_of_getElem? (i := 1549) (by decide +kernel), List.mem_of_getElem? (i := 1550) (by decide +kernel)⟩
theorem lw_p107 : lw_okq (⟨"HornBridgeModel", "byteAt", "(I)I"⟩, 76) := ⟨⟨by decide +kernel, by decide +kernel⟩, List.mem_of_getElem? (i := 1251) (by decide +kernel), List.mem_of_getElem? (i := 1553) (by decide +kernel), List.mem_of_getElem? (i := 1554) (by decide +kernel)⟩
theorem lw_p108 : lw_okq (⟨"HornBridgeModel", "refuse", "(I)I"⟩, 76) := ⟨⟨by decide +kernel, by decide +kernel⟩, List.mem_of_getElem? (i := 1251) (by decide +kernel), List.mem_of_getElem? (i := 1565) (by decide +kernel), List.mem_of_getElem? (i := 1566) (by decide +kernel)⟩
theorem lw_p109 : lw_okq (⟨"HornBridgeModel", "riverPart", "()Z"⟩, 76) := ⟨⟨by decide +kernel, by decide +kernel⟩, List.mem_of_getElem? (i := 1251) (by decide +kernel), List.mem_of_getElem? (i := 1569) (by decide +kernel), List.mem_of_getElem? (i := 1570) (by decide +kernel)⟩
theorem lw_p110 : lw_okq (⟨"HornBridgeModel", "inWords", "(Ljava/lang/String;)I"⟩, 76) := ⟨⟨by decide +kernel, by decide +kernel⟩, List.mem_of_getElem? (i := 1251) (by decide +kernel), List.mem_of_getElem? (i := 1574) (by decide +kernel), List.mem_of_getElem? (i := 1575) (by decide +kernel)⟩
theorem lw_p111 : lw_okq (⟨"HornBridgeModel", "aPort", "()Z"⟩, 76) := ⟨⟨by decide +kernel, by decide +kernel⟩, List.mem_of_getElem? (i := 1251) (by decide +kernel), List.mem_of_getElem? (i := 1626) (by decide +kernel), List.mem_of_getElem? (i := 1627) (by decide +kernel)⟩
def lw_privs_7 : List (MethodName × Nat) := [(⟨"HornBridge$Rules", "holds", "(II[I)Z"⟩, 7), (⟨"HornBridge$Rules", "compares", "(I[I)Z"⟩, 7), (⟨"HornBridge$Keeper", "beginNext", "()V"⟩, 17), (⟨"HornBridge$Keeper", "begin", "(ILHornBridge$Lane;I)V"⟩, 17), (⟨"HornBridge$Keeper", "tellDay", "()V"⟩, 17), (⟨"HornBridge", "wrongSeeds", "(II)I"⟩, 18), (⟨"HornBridgeModel", "is", "(I)Z"⟩, 76), (⟨"HornBridgeModel", "wrongPlace", "(II)I"⟩, 76), (⟨"HornBridgeModel", "four", "(I)V"⟩, 76), (⟨"HornBridgeModel", "begins", "(II)Z"⟩, 76), (⟨"HornBridgeModel", "ahead", "()V"⟩, 76), (⟨"HornBridgeModel", "byteAt", "(I)I"⟩, 76), (⟨"HornBridgeModel", "refuse", "(I)I"⟩, 76), (⟨"HornBridgeModel", "riverPart", "()Z"⟩, 76), (⟨"HornBridgeModel", "inWords", "(Ljava/lang/String;)I"⟩, 76), (⟨"HornBridgeModel", "aPort", "()Z"⟩, 76)]
theorem lw_r7 : ∀ q ∈ lw_privs_7, lw_okq q := List.forall_mem_cons.mpr ⟨lw_p96, List.forall_mem_cons.mpr ⟨lw_p97, List.forall_mem_cons.mpr ⟨lw_p98, List.forall_mem_cons.mpr ⟨lw_p99, List.forall_mem_cons.mpr ⟨lw_p100, List.forall_mem_cons.mpr ⟨lw_p101, List.forall_mem_cons.mpr ⟨lw_p102, List.forall_mem_cons.mpr ⟨lw_p103, List.forall_mem_cons.mpr ⟨lw_p104, List.forall_mem_cons.mpr ⟨lw_p105, List.forall_mem_cons.mpr ⟨lw_p106, List.forall_mem_cons.mpr ⟨lw_p107, List.forall_mem_cons.mpr ⟨lw_p108, List.forall_mem_cons.mpr ⟨lw_p109, List.forall_mem_cons.mpr ⟨lw_p110, List.forall_mem_cons.mpr ⟨lw_p111, fun _ h => absurd h List.not_mem_nil⟩⟩⟩⟩⟩⟩⟩⟩⟩⟩⟩⟩⟩⟩⟩⟩
theorem lw_p112 : lw_okq (⟨"HornBridgeModel", "fails", "(I)Z"⟩, 76) := ⟨⟨by decide +kernel, by decide +kernel⟩, List.mem_of_getElem? (i := 1251) (by decide +kernel), List.mem_of_getElem? (i := 1630) (by decide +kernel), List.mem_of_getElem? (i := 1631) (by decide +kernel)⟩
theorem lw_p113 : lw_okq (⟨"HornBridgeModel", "aNewName", "(I)Z"⟩, 76) := ⟨⟨by decide +kernel, by decide +kernel⟩, List.mem_of_getElem? (i := 1251) (by decide +kernel), List.mem_of_getElem? (i := 1634) (by decide +kernel), List.mem_of_getElem? (i := 1635) (by decide +kernel)⟩
theorem lw_p114 : lw_okq (⟨"HornBridgeModel", "isName", "(Ljava/lang/String;)Z"⟩, 76) := ⟨⟨by decide +kernel, by decide +kernel⟩, List.mem_of_getElem? (i := 1251) (by decide +kernel), List.mem_of_getElem? (i := 1638) (by decide +kernel), List.mem_of_getElem? (i := 1639) (by decide +kernel)⟩
theorem lw_p115 : lw_okq (⟨"HornBridgeModel", "findHere", "(II)I"⟩, 76) := ⟨⟨by decide +kernel, by decide +kernel⟩, List.mem_of_getElem? (i := 1251) (by decide +kernel), List.mem_of_getElem? (i := 1642) (by decide +kernel), List.mem_of_getElem? (i := 1643) (by decide +kernel)⟩
theorem lw_p116 : lw_okq (⟨"HornBridgeModel", "nameHere", "()J"⟩, 76) := ⟨⟨by decide +kernel, by decide +kernel⟩, List.mem_of_getElem? (i := 1251) (by decide +kernel), List.mem_of_getElem? (i := 1646) (by decide +kernel), List.mem_of_getElem? (i := 1647) (by decide +kernel)⟩
theorem lw_p117 : lw_okq (⟨"HornBridgeModel", "wantWord", "(Ljava/lang/String;I)Z"⟩, 76) := ⟨⟨by decide +kernel, by decide +kernel⟩, List.mem_of_getElem? (i := 1251) (by decide +kernel), List.mem_of_getElem? (i := 1650) (by decide +kernel), List.mem_of_getElem? (i := 1651) (by decide +kernel)⟩
theorem lw_p118 : lw_okq (⟨"HornBridgeModel", "areBlasts", "()Z"⟩, 76) := ⟨⟨by decide +kernel, by decide +kernel⟩, List.mem_of_getElem? (i := 1251) (by decide +kernel), List.mem_of_getElem? (i := 1654) (by decide +kernel), List.mem_of_getElem? (i := 1655) (by decide +kernel)⟩
theorem lw_p119 : lw_okq (⟨"HornBridgeModel", "aShip", "()Z"⟩, 76) := ⟨⟨by decide +kernel, by decide +kernel⟩, List.mem_of_getElem? (i := 1251) (by decide +kernel), List.mem_of_getElem? (i := 1658) (by decide +kernel), List.mem_of_getElem? (i := 1659) (by decide +kernel)⟩
theorem lw_p120 : lw_okq (⟨"HornBridgeModel", "passes", "(I)Z"⟩, 76) := ⟨⟨by decide +kernel, by decide +kernel⟩, List.mem_of_getElem? (i := 1251) (by decide +kernel), List.mem_of_getElem? (i := 1662) (by decide +kernel), List.mem_of_getElem? (i := 1663) (by decide +kernel)⟩
theorem lw_p121 : lw_okq (⟨"HornBridgeModel", "number", "(III)Z"⟩, 76) := ⟨⟨by decide +kernel, by decide +kernel⟩, List.mem_of_getElem? (i := 1251) (by decide +kernel), List.mem_of_getElem? (i := 1666) (by decide +kernel), List.mem_of_getElem? (i := 1667) (by decide +kernel)⟩
theorem lw_p122 : lw_okq (⟨"HornBridgeModel", "aCart", "()Z"⟩, 76) := ⟨⟨by decide +kernel, by decide +kernel⟩, List.mem_of_getElem? (i := 1251) (by decide +kernel), List.mem_of_getElem? (i := 1670) (by decide +kernel), List.mem_of_getElem? (i := 1671) (by decide +kernel)⟩
theorem lw_p123 : lw_okq (⟨"HornBridgeModel", "once", "(I)Z"⟩, 76) := ⟨⟨by decide +kernel, by decide +kernel⟩, List.mem_of_getElem? (i := 1251) (by decide +kernel), List.mem_of_getElem? (i := 1674) (by decide +kernel), List.mem_of_getElem? (i := 1675) (by decide +kernel)⟩
theorem lw_p124 : lw_okq (⟨"HornBridgeModel", "wantSign", "(I)Z"⟩, 76) := ⟨⟨by decide +kernel, by decide +kernel⟩, List.mem_of_getElem? (i := 1251) (by decide +kernel), List.mem_of_getElem? (i := 1678) (by decide +kernel), List.mem_of_getElem? (i := 1679) (by decide +kernel)⟩
theorem lw_p125 : lw_okq (⟨"HornBridgeModel", "isSign", "(I)Z"⟩, 76) := ⟨⟨by decide +kernel, by decide +kernel⟩, List.mem_of_getElem? (i := 1251) (by decide +kernel), List.mem_of_getElem? (i := 1682) (by decide +kernel), List.mem_of_getElem? (i := 1683) (by decide +kernel)⟩
theorem lw_p126 : lw_okq (⟨"HornBridgeModel", "taken", "(I)I"⟩, 76) := ⟨⟨by decide +kernel, by decide +kernel⟩, List.mem_of_getElem? (i := 1251) (by decide +kernel), List.mem_of_getElem? (i := 1686) (by decide +kernel), List.mem_of_getElem? (i := 1687) (by decide +kernel)⟩
theorem lw_p127 : lw_okq (⟨"HornBridgeModel", "gives", "(I)I"⟩, 76) := ⟨⟨by decide +kernel, by decide +kernel⟩, List.mem_of_getElem? (i := 1251) (by decide +kernel), List.mem_of_getElem? (i := 1690) (by decide +kernel), List.mem_of_getElem? (i := 1691) (by decide +kernel)⟩
def lw_privs_8 : List (MethodName × Nat) := [(⟨"HornBridgeModel", "fails", "(I)Z"⟩, 76), (⟨"HornBridgeModel", "aNewName", "(I)Z"⟩, 76), (⟨"HornBridgeModel", "isName", "(Ljava/lang/String;)Z"⟩, 76), (⟨"HornBridgeModel", "findHere", "(II)I"⟩, 76), (⟨"HornBridgeModel", "nameHere", "()J"⟩, 76), (⟨"HornBridgeModel", "wantWord", "(Ljava/lang/String;I)Z"⟩, 76), (⟨"HornBridgeModel", "areBlasts", "()Z"⟩, 76), (⟨"HornBridgeModel", "aShip", "()Z"⟩, 76), (⟨"HornBridgeModel", "passes", "(I)Z"⟩, 76), (⟨"HornBridgeModel", "number", "(III)Z"⟩, 76), (⟨"HornBridgeModel", "aCart", "()Z"⟩, 76), (⟨"HornBridgeModel", "once", "(I)Z"⟩, 76), (⟨"HornBridgeModel", "wantSign", "(I)Z"⟩, 76), (⟨"HornBridgeModel", "isSign", "(I)Z"⟩, 76), (⟨"HornBridgeModel", "taken", "(I)I"⟩, 76), (⟨"HornBridgeModel", "gives", "(I)I"⟩, 76)]
theorem lw_r8 : ∀ q ∈ lw_privs_8, lw_okq q := List.forall_mem_cons.mpr ⟨lw_p112, List.forall_mem_cons.mpr ⟨lw_p113, List.forall_mem_cons.mpr ⟨lw_p114, List.forall_mem_cons.mpr ⟨lw_p115, List.forall_mem_cons.mpr ⟨lw_p116, List.forall_mem_cons.mpr ⟨lw_p117, List.forall_mem_cons.mpr ⟨lw_p118, List.forall_mem_cons.mpr ⟨lw_p119, List.forall_mem_cons.mpr ⟨lw_p120, List.forall_mem_cons.mpr ⟨lw_p121, List.forall_mem_cons.mpr ⟨lw_p122, List.forall_mem_cons.mpr ⟨lw_p123, List.forall_mem_cons.mpr ⟨lw_p124, List.forall_mem_cons.mpr ⟨lw_p125, List.forall_mem_cons.mpr ⟨lw_p126, List.forall_mem_cons.mpr ⟨lw_p127, fun _ h => absurd h List.not_mem_nil⟩⟩⟩⟩⟩⟩⟩⟩⟩⟩⟩⟩⟩⟩⟩⟩
theorem lw_p128 : lw_okq (⟨"HornBridgeModel", "aRule", "()Z"⟩, 76) := ⟨⟨by decide +kernel, by decide +kernel⟩, List.mem_of_getElem? (i := 1251) (by decide +kernel), List.mem_of_getElem? (i := 1698) (by decide +kernel), List.mem_of_getElem? (i := 1699) (by decide +kernel)⟩
theorem lw_p129 : lw_okq (⟨"HornBridgeModel", "conditions", "()Z"⟩, 76) := ⟨⟨by decide +kernel, by decide +kernel⟩, List.mem_of_getElem? (i := 1251) (by decide +kernel), List.mem_of_getElem? (i := 1702) (by decide +kernel), List.mem_of_getElem? (i := 1703) (by decide +kernel)⟩
theorem lw_p130 : lw_okq (⟨"HornBridgeModel", "aOne", "()Z"⟩, 76) := ⟨⟨by decide +kernel, by decide +kernel⟩, List.mem_of_getElem? (i := 1251) (by decide +kernel), List.mem_of_getElem? (i := 1706) (by decide +kernel), List.mem_of_getElem? (i := 1707) (by decide +kernel)⟩
theorem lw_p131 : lw_okq (⟨"HornBridgeModel", "does", "(I)V"⟩, 76) := ⟨⟨by decide +kernel, by decide +kernel⟩, List.mem_of_getElem? (i := 1251) (by decide +kernel), List.mem_of_getElem? (i := 1710) (by decide +kernel), List.mem_of_getElem? (i := 1711) (by decide +kernel)⟩
theorem lw_p132 : lw_okq (⟨"HornBridgeModel", "aCase", "(I)Z"⟩, 76) := ⟨⟨by decide +kernel, by decide +kernel⟩, List.mem_of_getElem? (i := 1251) (by decide +kernel), List.mem_of_getElem? (i := 1714) (by decide +kernel), List.mem_of_getElem? (i := 1715) (by decide +kernel)⟩
theorem lw_p133 : lw_okq (⟨"HornBridgeModel", "asksAlso", "(I)V"⟩, 76) := ⟨⟨by decide +kernel, by decide +kernel⟩, List.mem_of_getElem? (i := 1251) (by decide +kernel), List.mem_of_getElem? (i := 1718) (by decide +kernel), List.mem_of_getElem? (i := 1719) (by decide +kernel)⟩
theorem lw_p134 : lw_okq (⟨"HornBridgeModel", "turnsRound", "()V"⟩, 76) := ⟨⟨by decide +kernel, by decide +kernel⟩, List.mem_of_getElem? (i := 1251) (by decide +kernel), List.mem_of_getElem? (i := 1722) (by decide +kernel), List.mem_of_getElem? (i := 1723) (by decide +kernel)⟩
theorem lw_p135 : lw_okq (⟨"HornBridgeModel", "isDoing", "(I)Z"⟩, 76) := ⟨⟨by decide +kernel, by decide +kernel⟩, List.mem_of_getElem? (i := 1251) (by decide +kernel), List.mem_of_getElem? (i := 1726) (by decide +kernel), List.mem_of_getElem? (i := 1727) (by decide +kernel)⟩
theorem lw_p136 : lw_okq (⟨"HornBridgeModel", "joins", "()V"⟩, 76) := ⟨⟨by decide +kernel, by decide +kernel⟩, List.mem_of_getElem? (i := 1251) (by decide +kernel), List.mem_of_getElem? (i := 1730) (by decide +kernel), List.mem_of_getElem? (i := 1731) (by decide +kernel)⟩
theorem lw_p137 : lw_okq (⟨"HornBridgeModel", "isWithin", "()Z"⟩, 76) := ⟨⟨by decide +kernel, by decide +kernel⟩, List.mem_of_getElem? (i := 1251) (by decide +kernel), List.mem_of_getElem? (i := 1734) (by decide +kernel), List.mem_of_getElem? (i := 1735) (by decide +kernel)⟩
theorem lw_p138 : lw_okq (⟨"HornBridgeModel", "isShip", "(I)Z"⟩, 76) := ⟨⟨by decide +kernel, by decide +kernel⟩, List.mem_of_getElem? (i := 1251) (by decide +kernel), List.mem_of_getElem? (i := 1746) (by decide +kernel), List.mem_of_getElem? (i := 1747) (by decide +kernel)⟩
theorem lw_p139 : lw_okq (⟨"HornBridgeModel", "isCart", "(I)Z"⟩, 76) := ⟨⟨by decide +kernel, by decide +kernel⟩, List.mem_of_getElem? (i := 1251) (by decide +kernel), List.mem_of_getElem? (i := 1754) (by decide +kernel), List.mem_of_getElem? (i := 1755) (by decide +kernel)⟩
theorem lw_p140 : lw_okq (⟨"HornBridgeModel", "isPort", "(I)Z"⟩, 76) := ⟨⟨by decide +kernel, by decide +kernel⟩, List.mem_of_getElem? (i := 1251) (by decide +kernel), List.mem_of_getElem? (i := 1762) (by decide +kernel), List.mem_of_getElem? (i := 1763) (by decide +kernel)⟩
theorem lw_p141 : lw_okq (⟨"HornBridgeModel", "soundOf", "(I)J"⟩, 76) := ⟨⟨by decide +kernel, by decide +kernel⟩, List.mem_of_getElem? (i := 1251) (by decide +kernel), List.mem_of_getElem? (i := 1766) (by decide +kernel), List.mem_of_getElem? (i := 1767) (by decide +kernel)⟩
theorem lw_p142 : lw_okq (⟨"HornBridgeModel", "beatsOf", "(II)J"⟩, 76) := ⟨⟨by decide +kernel, by decide +kernel⟩, List.mem_of_getElem? (i := 1251) (by decide +kernel), List.mem_of_getElem? (i := 1770) (by decide +kernel), List.mem_of_getElem? (i := 1771) (by decide +kernel)⟩
theorem lw_p143 : lw_okq (⟨"HornBridgeModel", "givesLong", "(J)J"⟩, 76) := ⟨⟨by decide +kernel, by decide +kernel⟩, List.mem_of_getElem? (i := 1251) (by decide +kernel), List.mem_of_getElem? (i := 1774) (by decide +kernel), List.mem_of_getElem? (i := 1775) (by decide +kernel)⟩
def lw_privs_9 : List (MethodName × Nat) := [(⟨"HornBridgeModel", "aRule", "()Z"⟩, 76), (⟨"HornBridgeModel", "conditions", "()Z"⟩, 76), (⟨"HornBridgeModel", "aOne", "()Z"⟩, 76), (⟨"HornBridgeModel", "does", "(I)V"⟩, 76), (⟨"HornBridgeModel", "aCase", "(I)Z"⟩, 76), (⟨"HornBridgeModel", "asksAlso", "(I)V"⟩, 76), (⟨"HornBridgeModel", "turnsRound", "()V"⟩, 76), (⟨"HornBridgeModel", "isDoing", "(I)Z"⟩, 76), (⟨"HornBridgeModel", "joins", "()V"⟩, 76), (⟨"HornBridgeModel", "isWithin", "()Z"⟩, 76), (⟨"HornBridgeModel", "isShip", "(I)Z"⟩, 76), (⟨"HornBridgeModel", "isCart", "(I)Z"⟩, 76), (⟨"HornBridgeModel", "isPort", "(I)Z"⟩, 76), (⟨"HornBridgeModel", "soundOf", "(I)J"⟩, 76), (⟨"HornBridgeModel", "beatsOf", "(II)J"⟩, 76), (⟨"HornBridgeModel", "givesLong", "(J)J"⟩, 76)]
theorem lw_r9 : ∀ q ∈ lw_privs_9, lw_okq q := List.forall_mem_cons.mpr ⟨lw_p128, List.forall_mem_cons.mpr ⟨lw_p129, List.forall_mem_cons.mpr ⟨lw_p130, List.forall_mem_cons.mpr ⟨lw_p131, List.forall_mem_cons.mpr ⟨lw_p132, List.forall_mem_cons.mpr ⟨lw_p133, List.forall_mem_cons.mpr ⟨lw_p134, List.forall_mem_cons.mpr ⟨lw_p135, List.forall_mem_cons.mpr ⟨lw_p136, List.forall_mem_cons.mpr ⟨lw_p137, List.forall_mem_cons.mpr ⟨lw_p138, List.forall_mem_cons.mpr ⟨lw_p139, List.forall_mem_cons.mpr ⟨lw_p140, List.forall_mem_cons.mpr ⟨lw_p141, List.forall_mem_cons.mpr ⟨lw_p142, List.forall_mem_cons.mpr ⟨lw_p143, fun _ h => absurd h List.not_mem_nil⟩⟩⟩⟩⟩⟩⟩⟩⟩⟩⟩⟩⟩⟩⟩⟩
theorem lw_p144 : lw_okq (⟨"HornBridgeModel", "heardOf", "(I)J"⟩, 76) := ⟨⟨by decide +kernel, by decide +kernel⟩, List.mem_of_getElem? (i := 1251) (by decide +kernel), List.mem_of_getElem? (i := 1782) (by decide +kernel), List.mem_of_getElem? (i := 1783) (by decide +kernel)⟩
theorem lw_p145 : lw_okq (⟨"HornBridgeModel", "findsReadings", "(J)V"⟩, 76) := ⟨⟨by decide +kernel, by decide +kernel⟩, List.mem_of_getElem? (i := 1251) (by decide +kernel), List.mem_of_getElem? (i := 1812) (by decide +kernel), List.mem_of_getElem? (i := 1813) (by decide +kernel)⟩
theorem lw_p146 : lw_okq (⟨"HornBridgeModel", "reads", "(III)V"⟩, 76) := ⟨⟨by decide +kernel, by decide +kernel⟩, List.mem_of_getElem? (i := 1251) (by decide +kernel), List.mem_of_getElem? (i := 1816) (by decide +kernel), List.mem_of_getElem? (i := 1817) (by decide +kernel)⟩
theorem lw_p147 : lw_okq (⟨"HornBridgeModel", "orNone", "(I)I"⟩, 76) := ⟨⟨by decide +kernel, by decide +kernel⟩, List.mem_of_getElem? (i := 1251) (by decide +kernel), List.mem_of_getElem? (i := 1824) (by decide +kernel), List.mem_of_getElem? (i := 1825) (by decide +kernel)⟩
theorem lw_p148 : lw_okq (⟨"HornBridgeModel", "tellsBy", "(JJ)Z"⟩, 76) := ⟨⟨by decide +kernel, by decide +kernel⟩, List.mem_of_getElem? (i := 1251) (by decide +kernel), List.mem_of_getElem? (i := 1832) (by decide +kernel), List.mem_of_getElem? (i := 1833) (by decide +kernel)⟩
theorem lw_p149 : lw_okq (⟨"HornBridgeModel", "alikeBy", "(I)I"⟩, 76) := ⟨⟨by decide +kernel, by decide +kernel⟩, List.mem_of_getElem? (i := 1251) (by decide +kernel), List.mem_of_getElem? (i := 1840) (by decide +kernel), List.mem_of_getElem? (i := 1841) (by decide +kernel)⟩
theorem lw_p150 : lw_okq (⟨"HornBridgeModel", "laysCalls", "(II)V"⟩, 76) := ⟨⟨by decide +kernel, by decide +kernel⟩, List.mem_of_getElem? (i := 1251) (by decide +kernel), List.mem_of_getElem? (i := 1866) (by decide +kernel), List.mem_of_getElem? (i := 1867) (by decide +kernel)⟩
theorem lw_p151 : lw_okq (⟨"HornBridgeModel", "isCode", "(I)Z"⟩, 76) := ⟨⟨by decide +kernel, by decide +kernel⟩, List.mem_of_getElem? (i := 1251) (by decide +kernel), List.mem_of_getElem? (i := 1871) (by decide +kernel), List.mem_of_getElem? (i := 1872) (by decide +kernel)⟩
theorem lw_p152 : lw_okq (⟨"HornBridgeModel", "tellsMinutes", "()V"⟩, 76) := ⟨⟨by decide +kernel, by decide +kernel⟩, List.mem_of_getElem? (i := 1251) (by decide +kernel), List.mem_of_getElem? (i := 1883) (by decide +kernel), List.mem_of_getElem? (i := 1884) (by decide +kernel)⟩
theorem lw_p153 : lw_okq (⟨"HornBridgeModel", "orders", "(I)V"⟩, 76) := ⟨⟨by decide +kernel, by decide +kernel⟩, List.mem_of_getElem? (i := 1251) (by decide +kernel), List.mem_of_getElem? (i := 1887) (by decide +kernel), List.mem_of_getElem? (i := 1888) (by decide +kernel)⟩
theorem lw_p154 : lw_okq (⟨"HornBridgeModel", "leastBy", "(II)I"⟩, 76) := ⟨⟨by decide +kernel, by decide +kernel⟩, List.mem_of_getElem? (i := 1251) (by decide +kernel), List.mem_of_getElem? (i := 1899) (by decide +kernel), List.mem_of_getElem? (i := 1900) (by decide +kernel)⟩
theorem lw_p155 : lw_okq (⟨"HornBridgeModel", "reckons", "()I"⟩, 76) := ⟨⟨by decide +kernel, by decide +kernel⟩, List.mem_of_getElem? (i := 1251) (by decide +kernel), List.mem_of_getElem? (i := 1903) (by decide +kernel), List.mem_of_getElem? (i := 1904) (by decide +kernel)⟩
theorem lw_p156 : lw_okq (⟨"HornBridgeModel", "leftAt", "(IIII)I"⟩, 76) := ⟨⟨by decide +kernel, by decide +kernel⟩, List.mem_of_getElem? (i := 1251) (by decide +kernel), List.mem_of_getElem? (i := 1907) (by decide +kernel), List.mem_of_getElem? (i := 1908) (by decide +kernel)⟩
theorem lw_p157 : lw_okq (⟨"HornBridgeModel", "turnTime", "(II)I"⟩, 76) := ⟨⟨by decide +kernel, by decide +kernel⟩, List.mem_of_getElem? (i := 1251) (by decide +kernel), List.mem_of_getElem? (i := 1915) (by decide +kernel), List.mem_of_getElem? (i := 1916) (by decide +kernel)⟩
theorem lw_p158 : lw_okq (⟨"HornBridgeModel", "mayShip", "(III)Z"⟩, 76) := ⟨⟨by decide +kernel, by decide +kernel⟩, List.mem_of_getElem? (i := 1251) (by decide +kernel), List.mem_of_getElem? (i := 1919) (by decide +kernel), List.mem_of_getElem? (i := 1920) (by decide +kernel)⟩
theorem lw_p159 : lw_okq (⟨"HornBridgeModel", "ofShip", "(II)I"⟩, 76) := ⟨⟨by decide +kernel, by decide +kernel⟩, List.mem_of_getElem? (i := 1251) (by decide +kernel), List.mem_of_getElem? (i := 1923) (by decide +kernel), List.mem_of_getElem? (i := 1924) (by decide +kernel)⟩
def lw_privs_10 : List (MethodName × Nat) := [(⟨"HornBridgeModel", "heardOf", "(I)J"⟩, 76), (⟨"HornBridgeModel", "findsReadings", "(J)V"⟩, 76), (⟨"HornBridgeModel", "reads", "(III)V"⟩, 76), (⟨"HornBridgeModel", "orNone", "(I)I"⟩, 76), (⟨"HornBridgeModel", "tellsBy", "(JJ)Z"⟩, 76), (⟨"HornBridgeModel", "alikeBy", "(I)I"⟩, 76), (⟨"HornBridgeModel", "laysCalls", "(II)V"⟩, 76), (⟨"HornBridgeModel", "isCode", "(I)Z"⟩, 76), (⟨"HornBridgeModel", "tellsMinutes", "()V"⟩, 76), (⟨"HornBridgeModel", "orders", "(I)V"⟩, 76), (⟨"HornBridgeModel", "leastBy", "(II)I"⟩, 76), (⟨"HornBridgeModel", "reckons", "()I"⟩, 76), (⟨"HornBridgeModel", "leftAt", "(IIII)I"⟩, 76), (⟨"HornBridgeModel", "turnTime", "(II)I"⟩, 76), (⟨"HornBridgeModel", "mayShip", "(III)Z"⟩, 76), (⟨"HornBridgeModel", "ofShip", "(II)I"⟩, 76)]
theorem lw_r10 : ∀ q ∈ lw_privs_10, lw_okq q := List.forall_mem_cons.mpr ⟨lw_p144, List.forall_mem_cons.mpr ⟨lw_p145, List.forall_mem_cons.mpr ⟨lw_p146, List.forall_mem_cons.mpr ⟨lw_p147, List.forall_mem_cons.mpr ⟨lw_p148, List.forall_mem_cons.mpr ⟨lw_p149, List.forall_mem_cons.mpr ⟨lw_p150, List.forall_mem_cons.mpr ⟨lw_p151, List.forall_mem_cons.mpr ⟨lw_p152, List.forall_mem_cons.mpr ⟨lw_p153, List.forall_mem_cons.mpr ⟨lw_p154, List.forall_mem_cons.mpr ⟨lw_p155, List.forall_mem_cons.mpr ⟨lw_p156, List.forall_mem_cons.mpr ⟨lw_p157, List.forall_mem_cons.mpr ⟨lw_p158, List.forall_mem_cons.mpr ⟨lw_p159, fun _ h => absurd h List.not_mem_nil⟩⟩⟩⟩⟩⟩⟩⟩⟩⟩⟩⟩⟩⟩⟩⟩
theorem lw_p160 : lw_okq (⟨"HornBridgeModel", "byShip", "(III)I"⟩, 76) := ⟨⟨by decide +kernel, by decide +kernel⟩, List.mem_of_getElem? (i := 1251) (by decide +kernel), List.mem_of_getElem? (i := 1927) (by decide +kernel), List.mem_of_getElem? (i := 1928) (by decide +kernel)⟩
theorem lw_p161 : lw_okq (⟨"HornBridgeModel", "mayCart", "(III)Z"⟩, 76) := ⟨⟨by decide +kernel, by decide +kernel⟩, List.mem_of_getElem? (i := 1251) (by decide +kernel), List.mem_of_getElem? (i := 1931) (by decide +kernel), List.mem_of_getElem? (i := 1932) (by decide +kernel)⟩
theorem lw_p162 : lw_okq (⟨"HornBridgeModel", "byCart", "(III)I"⟩, 76) := ⟨⟨by decide +kernel, by decide +kernel⟩, List.mem_of_getElem? (i := 1251) (by decide +kernel), List.mem_of_getElem? (i := 1935) (by decide +kernel), List.mem_of_getElem? (i := 1936) (by decide +kernel)⟩
theorem lw_p163 : lw_okq (⟨"HornBridgeModel", "ofCart", "(II)I"⟩, 76) := ⟨⟨by decide +kernel, by decide +kernel⟩, List.mem_of_getElem? (i := 1251) (by decide +kernel), List.mem_of_getElem? (i := 1939) (by decide +kernel), List.mem_of_getElem? (i := 1940) (by decide +kernel)⟩
theorem lw_p164 : lw_okq (⟨"HornBridgeModel", "plans", "()Z"⟩, 76) := ⟨⟨by decide +kernel, by decide +kernel⟩, List.mem_of_getElem? (i := 1251) (by decide +kernel), List.mem_of_getElem? (i := 1947) (by decide +kernel), List.mem_of_getElem? (i := 1948) (by decide +kernel)⟩
theorem lw_p165 : lw_okq (⟨"HornBridgeModel", "acts", "(III)V"⟩, 76) := ⟨⟨by decide +kernel, by decide +kernel⟩, List.mem_of_getElem? (i := 1251) (by decide +kernel), List.mem_of_getElem? (i := 1951) (by decide +kernel), List.mem_of_getElem? (i := 1952) (by decide +kernel)⟩
theorem lw_p166 : lw_okq (⟨"HornBridgeModel", "laterBy", "(II)I"⟩, 76) := ⟨⟨by decide +kernel, by decide +kernel⟩, List.mem_of_getElem? (i := 1251) (by decide +kernel), List.mem_of_getElem? (i := 1977) (by decide +kernel), List.mem_of_getElem? (i := 1978) (by decide +kernel)⟩
theorem lw_p167 : lw_okq (⟨"HornBridgeModel", "cameBy", "(I)I"⟩, 76) := ⟨⟨by decide +kernel, by decide +kernel⟩, List.mem_of_getElem? (i := 1251) (by decide +kernel), List.mem_of_getElem? (i := 1993) (by decide +kernel), List.mem_of_getElem? (i := 1994) (by decide +kernel)⟩
theorem lw_p168 : lw_okq (⟨"HornBridgeModel", "costsBy", "(I)I"⟩, 76) := ⟨⟨by decide +kernel, by decide +kernel⟩, List.mem_of_getElem? (i := 1251) (by decide +kernel), List.mem_of_getElem? (i := 1997) (by decide +kernel), List.mem_of_getElem? (i := 1998) (by decide +kernel)⟩
theorem lw_p169 : lw_okq (⟨"HornBridgeModel", "keeps", "(I)V"⟩, 76) := ⟨⟨by decide +kernel, by decide +kernel⟩, List.mem_of_getElem? (i := 1251) (by decide +kernel), List.mem_of_getElem? (i := 2014) (by decide +kernel), List.mem_of_getElem? (i := 2015) (by decide +kernel)⟩
theorem lw_p170 : lw_okq (⟨"HornBridgeModel", "draw", "()I"⟩, 76) := ⟨⟨by decide +kernel, by decide +kernel⟩, List.mem_of_getElem? (i := 1251) (by decide +kernel), List.mem_of_getElem? (i := 2018) (by decide +kernel), List.mem_of_getElem? (i := 2019) (by decide +kernel)⟩
theorem lw_p171 : lw_okq (⟨"HornBridgeModel", "minuteGoes", "()V"⟩, 76) := ⟨⟨by decide +kernel, by decide +kernel⟩, List.mem_of_getElem? (i := 1251) (by decide +kernel), List.mem_of_getElem? (i := 2023) (by decide +kernel), List.mem_of_getElem? (i := 2024) (by decide +kernel)⟩
theorem lw_p172 : lw_okq (⟨"HornBridgeModel", "passesOver", "()V"⟩, 76) := ⟨⟨by decide +kernel, by decide +kernel⟩, List.mem_of_getElem? (i := 1251) (by decide +kernel), List.mem_of_getElem? (i := 2027) (by decide +kernel), List.mem_of_getElem? (i := 2028) (by decide +kernel)⟩
theorem lw_p173 : lw_okq (⟨"HornBridgeModel", "strikes", "()V"⟩, 76) := ⟨⟨by decide +kernel, by decide +kernel⟩, List.mem_of_getElem? (i := 1251) (by decide +kernel), List.mem_of_getElem? (i := 2031) (by decide +kernel), List.mem_of_getElem? (i := 2032) (by decide +kernel)⟩
theorem lw_p174 : lw_okq (⟨"HornBridgeModel", "isBusy", "()Z"⟩, 76) := ⟨⟨by decide +kernel, by decide +kernel⟩, List.mem_of_getElem? (i := 1251) (by decide +kernel), List.mem_of_getElem? (i := 2035) (by decide +kernel), List.mem_of_getElem? (i := 2036) (by decide +kernel)⟩
theorem lw_p175 : lw_okq (⟨"HornBridgeModel", "actNow", "()I"⟩, 76) := ⟨⟨by decide +kernel, by decide +kernel⟩, List.mem_of_getElem? (i := 1251) (by decide +kernel), List.mem_of_getElem? (i := 2039) (by decide +kernel), List.mem_of_getElem? (i := 2040) (by decide +kernel)⟩
def lw_privs_11 : List (MethodName × Nat) := [(⟨"HornBridgeModel", "byShip", "(III)I"⟩, 76), (⟨"HornBridgeModel", "mayCart", "(III)Z"⟩, 76), (⟨"HornBridgeModel", "byCart", "(III)I"⟩, 76), (⟨"HornBridgeModel", "ofCart", "(II)I"⟩, 76), (⟨"HornBridgeModel", "plans", "()Z"⟩, 76), (⟨"HornBridgeModel", "acts", "(III)V"⟩, 76), (⟨"HornBridgeModel", "laterBy", "(II)I"⟩, 76), (⟨"HornBridgeModel", "cameBy", "(I)I"⟩, 76), (⟨"HornBridgeModel", "costsBy", "(I)I"⟩, 76), (⟨"HornBridgeModel", "keeps", "(I)V"⟩, 76), (⟨"HornBridgeModel", "draw", "()I"⟩, 76), (⟨"HornBridgeModel", "minuteGoes", "()V"⟩, 76), (⟨"HornBridgeModel", "passesOver", "()V"⟩, 76), (⟨"HornBridgeModel", "strikes", "()V"⟩, 76), (⟨"HornBridgeModel", "isBusy", "()Z"⟩, 76), (⟨"HornBridgeModel", "actNow", "()I"⟩, 76)]
theorem lw_r11 : ∀ q ∈ lw_privs_11, lw_okq q := List.forall_mem_cons.mpr ⟨lw_p160, List.forall_mem_cons.mpr ⟨lw_p161, List.forall_mem_cons.mpr ⟨lw_p162, List.forall_mem_cons.mpr ⟨lw_p163, List.forall_mem_cons.mpr ⟨lw_p164, List.forall_mem_cons.mpr ⟨lw_p165, List.forall_mem_cons.mpr ⟨lw_p166, List.forall_mem_cons.mpr ⟨lw_p167, List.forall_mem_cons.mpr ⟨lw_p168, List.forall_mem_cons.mpr ⟨lw_p169, List.forall_mem_cons.mpr ⟨lw_p170, List.forall_mem_cons.mpr ⟨lw_p171, List.forall_mem_cons.mpr ⟨lw_p172, List.forall_mem_cons.mpr ⟨lw_p173, List.forall_mem_cons.mpr ⟨lw_p174, List.forall_mem_cons.mpr ⟨lw_p175, fun _ h => absurd h List.not_mem_nil⟩⟩⟩⟩⟩⟩⟩⟩⟩⟩⟩⟩⟩⟩⟩⟩
theorem lw_p176 : lw_okq (⟨"HornBridgeModel", "holds", "(I)Z"⟩, 76) := ⟨⟨by decide +kernel, by decide +kernel⟩, List.mem_of_getElem? (i := 1251) (by decide +kernel), List.mem_of_getElem? (i := 2043) (by decide +kernel), List.mem_of_getElem? (i := 2044) (by decide +kernel)⟩
theorem lw_p177 : lw_okq (⟨"HornBridgeModel", "asked", "(I)Z"⟩, 76) := ⟨⟨by decide +kernel, by decide +kernel⟩, List.mem_of_getElem? (i := 1251) (by decide +kernel), List.mem_of_getElem? (i := 2047) (by decide +kernel), List.mem_of_getElem? (i := 2048) (by decide +kernel)⟩
theorem lw_p178 : lw_okq (⟨"HornBridgeModel", "waitingShips", "()I"⟩, 76) := ⟨⟨by decide +kernel, by decide +kernel⟩, List.mem_of_getElem? (i := 1251) (by decide +kernel), List.mem_of_getElem? (i := 2051) (by decide +kernel), List.mem_of_getElem? (i := 2052) (by decide +kernel)⟩
theorem lw_p179 : lw_okq (⟨"HornBridgeModel", "waitingCarts", "()I"⟩, 76) := ⟨⟨by decide +kernel, by decide +kernel⟩, List.mem_of_getElem? (i := 1251) (by decide +kernel), List.mem_of_getElem? (i := 2055) (by decide +kernel), List.mem_of_getElem? (i := 2056) (by decide +kernel)⟩
theorem lw_p180 : lw_okq (⟨"HornBridgeModel", "nextIn", "()I"⟩, 76) := ⟨⟨by decide +kernel, by decide +kernel⟩, List.mem_of_getElem? (i := 1251) (by decide +kernel), List.mem_of_getElem? (i := 2059) (by decide +kernel), List.mem_of_getElem? (i := 2060) (by decide +kernel)⟩
theorem lw_p181 : lw_okq (⟨"HornBridgeModel", "leftOver", "()I"⟩, 76) := ⟨⟨by decide +kernel, by decide +kernel⟩, List.mem_of_getElem? (i := 1251) (by decide +kernel), List.mem_of_getElem? (i := 2063) (by decide +kernel), List.mem_of_getElem? (i := 2064) (by decide +kernel)⟩
theorem lw_p182 : lw_okq (⟨"HornBridgeModel", "areSeeds", "(II)Z"⟩, 76) := ⟨⟨by decide +kernel, by decide +kernel⟩, List.mem_of_getElem? (i := 1251) (by decide +kernel), List.mem_of_getElem? (i := 2075) (by decide +kernel), List.mem_of_getElem? (i := 2076) (by decide +kernel)⟩
theorem lw_p183 : lw_okq (⟨"HornBridgeModel", "copies", "(II)V"⟩, 76) := ⟨⟨by decide +kernel, by decide +kernel⟩, List.mem_of_getElem? (i := 1251) (by decide +kernel), List.mem_of_getElem? (i := 2087) (by decide +kernel), List.mem_of_getElem? (i := 2088) (by decide +kernel)⟩
def lw_privs_12 : List (MethodName × Nat) := [(⟨"HornBridgeModel", "holds", "(I)Z"⟩, 76), (⟨"HornBridgeModel", "asked", "(I)Z"⟩, 76), (⟨"HornBridgeModel", "waitingShips", "()I"⟩, 76), (⟨"HornBridgeModel", "waitingCarts", "()I"⟩, 76), (⟨"HornBridgeModel", "nextIn", "()I"⟩, 76), (⟨"HornBridgeModel", "leftOver", "()I"⟩, 76), (⟨"HornBridgeModel", "areSeeds", "(II)Z"⟩, 76), (⟨"HornBridgeModel", "copies", "(II)V"⟩, 76)]
theorem lw_r12 : ∀ q ∈ lw_privs_12, lw_okq q := List.forall_mem_cons.mpr ⟨lw_p176, List.forall_mem_cons.mpr ⟨lw_p177, List.forall_mem_cons.mpr ⟨lw_p178, List.forall_mem_cons.mpr ⟨lw_p179, List.forall_mem_cons.mpr ⟨lw_p180, List.forall_mem_cons.mpr ⟨lw_p181, List.forall_mem_cons.mpr ⟨lw_p182, List.forall_mem_cons.mpr ⟨lw_p183, fun _ h => absurd h List.not_mem_nil⟩⟩⟩⟩⟩⟩⟩⟩
def lw_privs : List (MethodName × Nat) := lw_privs_1 ++ (lw_privs_2 ++ (lw_privs_3 ++ (lw_privs_4 ++ (lw_privs_5 ++ (lw_privs_6 ++ (lw_privs_7 ++ (lw_privs_8 ++ (lw_privs_9 ++ (lw_privs_10 ++ (lw_privs_11 ++ (lw_privs_12)))))))))))
def lw_tbl : List Cond := k2_sels lw_privs ++ tables_1
theorem lw_privs_ok : ∀ q ∈ lw_privs, lw_okq q := by
  show ∀ q ∈ lw_privs_1 ++ (lw_privs_2 ++ (lw_privs_3 ++ (lw_privs_4 ++ (lw_privs_5 ++ (lw_privs_6 ++ (lw_privs_7 ++ (lw_privs_8 ++ (lw_privs_9 ++ (lw_privs_10 ++ (lw_privs_11 ++ (lw_privs_12))))))))))), lw_okq q
  exact List.forall_mem_append.mpr ⟨lw_r1, List.forall_mem_append.mpr ⟨lw_r2, List.forall_mem_append.mpr ⟨lw_r3, List.forall_mem_append.mpr ⟨lw_r4, List.forall_mem_append.mpr ⟨lw_r5, List.forall_mem_append.mpr ⟨lw_r6, List.forall_mem_append.mpr ⟨lw_r7, List.forall_mem_append.mpr ⟨lw_r8, List.forall_mem_append.mpr ⟨lw_r9, List.forall_mem_append.mpr ⟨lw_r10, List.forall_mem_append.mpr ⟨lw_r11, lw_r12⟩⟩⟩⟩⟩⟩⟩⟩⟩⟩⟩
-- ===== end of PART A; then your names; then what follows =====
end
section
/-! ===== BEGIN words of one list among another's, by their places ===== -/
theorem goodIn_r {big : List Cond} (ws : List Cond) (ps : List Nat) (hp : ws = ps.filterMap (fun i => big[i]?)) (h : ws.all goodWord = true) : GoodIn big ws := by
  intro w hw
  have h1 := List.all_eq_true.mp h w hw
  rw [hp] at hw
  obtain ⟨i, -, hi⟩ := List.mem_filterMap.mp hw
  have hm : w ∈ big := by first | exact List.mem_of_getElem? hi | exact List.getElem?_mem hi
  exact ⟨hm, good_of_word h1⟩
theorem goodIn_app {big a b : List Cond} (ha : GoodIn big a) (hb : GoodIn big b) : GoodIn big (a ++ b) := fun w h => (List.mem_append.mp h).elim (ha w) (hb w)
theorem goodIn_ca {big a b : List Cond} {c : Cond} (ha : GoodIn big (c :: a)) (hb : GoodIn big b) : GoodIn big (c :: (a ++ b)) := fun w h => (List.mem_cons.mp h).elim (fun e => ha w (List.mem_cons.mpr (Or.inl e))) (fun h => (List.mem_append.mp h).elim (fun h => ha w (List.mem_cons.mpr (Or.inr h))) (hb w))
theorem goodIn_sub {big ws : List Cond} (hm : ∀ w ∈ ws, w ∈ big) (h : ws.all goodWord = true) : GoodIn big ws := fun w hw => ⟨hm w hw, good_of_word (List.all_eq_true.mp h w hw)⟩
/-! ===== END ===== -/

/-! ===== BEGIN printed: names, fields, word lists, decode rows ===== -/
def RX0 : String := "HornBridge$CodeSearch"
def TX0 : u_T := fun k => match k with
  | 0 => ("HornBridge$CodeSearch", "letters", "[J", true)
  | 1 => ("HornBridge$CodeSearch", "blasts", "[I", true)
  | 2 => ("HornBridge$CodeSearch", "heardAs", "[J", true)
  | 3 => ("HornBridge$CodeSearch", "manyCalls", "I", false)
  | 4 => ("HornBridge$CodeSearch", "row", "[I", true)
  | 5 => ("HornBridge$CodeSearch", "rowTold", "[I", true)
  | _ => ("HornBridge$CodeSearch", "manyTold", "I", false)
def tyX0 : Nat → FieldType := fun k => match k with
  | 0 => .array .long
  | 1 => .array .int
  | 2 => .array .long
  | 3 => .int
  | 4 => .array .int
  | 5 => .array .int
  | _ => .int
abbrev wsX00 : List Cond := u_ws RX0 TX0 7
theorem nmX0 : ∀ a, a < 7 → ∀ b, b < 7 → a ≠ b → (TX0 a).2.1 ≠ (TX0 b).2.1 := by decide +kernel
theorem tyX0_ok : ∀ k, k < 7 → parseFieldDescriptor (TX0 k).2.2.1 = some (tyX0 k) := by decide +kernel
abbrev cX0_init : ByteArray := prog_2_method_1_code
def yX0_init : MethodName := ⟨RX0, "<init>", "()V"⟩
abbrev cX0_lettersOf : ByteArray := prog_2_method_2_code
def yX0_lettersOf : MethodName := ⟨RX0, "lettersOf", "(II)J"⟩
abbrev cX0_find : ByteArray := prog_2_method_3_code
def yX0_find : MethodName := ⟨RX0, "find", "(III)Z"⟩
abbrev cX0_extend : ByteArray := prog_2_method_4_code
def yX0_extend : MethodName := ⟨RX0, "extend", "(IIII)Z"⟩
abbrev cX0_fitsLast : ByteArray := prog_2_method_5_code
def yX0_fitsLast : MethodName := ⟨RX0, "fitsLast", "(I)Z"⟩
abbrev cX0_heardInRow : ByteArray := prog_2_method_6_code
def yX0_heardInRow : MethodName := ⟨RX0, "heardInRow", "(I)J"⟩
abbrev cX0_callTold : ByteArray := prog_2_method_7_code
def yX0_callTold : MethodName := ⟨RX0, "callTold", "(I)J"⟩
abbrev cX0_blastsTold : ByteArray := prog_2_method_8_code
def yX0_blastsTold : MethodName := ⟨RX0, "blastsTold", "()I"⟩
def RX1 : String := "HornBridge$Crossing"
def TX1 : u_T := fun k => match k with
  | 0 => ("HornBridge$Crossing", "river", "LHornBridge$River;", false)
  | 1 => ("HornBridge$Crossing", "turns", "I", false)
  | 2 => ("HornBridge$Crossing", "ships", "LHornBridge$Lane;", true)
  | 3 => ("HornBridge$Crossing", "carts", "LHornBridge$Lane;", true)
  | 4 => ("HornBridge$Crossing", "best", "I", false)
  | 5 => ("HornBridge$Crossing", "enough", "I", false)
  | 6 => ("HornBridge$Crossing", "acts", "I", false)
  | 7 => ("HornBridge$Crossing", "planLaid", "[I", true)
  | 8 => ("HornBridge$Crossing", "actsTold", "I", false)
  | 9 => ("HornBridge$Crossing", "planTold", "[I", true)
  | 10 => ("HornBridge$Crossing", "shipBegins", "[I", true)
  | _ => ("HornBridge$Crossing", "cartBegins", "[I", true)
def tyX1 : Nat → FieldType := fun k => match k with
  | 0 => .object "HornBridge$River"
  | 1 => .int
  | 2 => .object "HornBridge$Lane"
  | 3 => .object "HornBridge$Lane"
  | 4 => .int
  | 5 => .int
  | 6 => .int
  | 7 => .array .int
  | 8 => .int
  | 9 => .array .int
  | 10 => .array .int
  | _ => .array .int
abbrev wsX10 : List Cond := u_ws RX1 TX1 12
theorem nmX1 : ∀ a, a < 12 → ∀ b, b < 12 → a ≠ b → (TX1 a).2.1 ≠ (TX1 b).2.1 := by decide +kernel
theorem tyX1_ok : ∀ k, k < 12 → parseFieldDescriptor (TX1 k).2.2.1 = some (tyX1 k) := by decide +kernel
abbrev cX1_init : ByteArray := prog_3_method_1_code
def yX1_init : MethodName := ⟨RX1, "<init>", "()V"⟩
abbrev cX1_takeAll : ByteArray := prog_3_method_2_code
def yX1_takeAll : MethodName := ⟨RX1, "takeAll", "(LHornBridge$River;)V"⟩
abbrev cX1_takeShips : ByteArray := prog_3_method_3_code
def yX1_takeShips : MethodName := ⟨RX1, "takeShips", "(LHornBridge$River;III)V"⟩
abbrev cX1_takeCarts : ByteArray := prog_3_method_4_code
def yX1_takeCarts : MethodName := ⟨RX1, "takeCarts", "(LHornBridge$River;I)V"⟩
abbrev cX1_turnEnd : ByteArray := prog_3_method_5_code
def yX1_turnEnd : MethodName := ⟨RX1, "turnEnd", "(I)I"⟩
abbrev cX1_leastWaits : ByteArray := prog_3_method_6_code
def yX1_leastWaits : MethodName := ⟨RX1, "leastWaits", "()I"⟩
abbrev cX1_canPassWithin : ByteArray := prog_3_method_7_code
def yX1_canPassWithin : MethodName := ⟨RX1, "canPassWithin", "(I)Z"⟩
abbrev cX1_allCanPass : ByteArray := prog_3_method_8_code
def yX1_allCanPass : MethodName := ⟨RX1, "allCanPass", "()Z"⟩
abbrev cX1_canEndWithin : ByteArray := prog_3_method_9_code
def yX1_canEndWithin : MethodName := ⟨RX1, "canEndWithin", "(IZIII)Z"⟩
abbrev cX1_search : ByteArray := prog_3_method_10_code
def yX1_search : MethodName := ⟨RX1, "search", "(IZIII)V"⟩
abbrev cX1_canBegin : ByteArray := prog_3_method_11_code
def yX1_canBegin : MethodName := ⟨RX1, "canBegin", "(LHornBridge$Lane;II)Z"⟩
abbrev cX1_waitsOf : ByteArray := prog_3_method_12_code
def yX1_waitsOf : MethodName := ⟨RX1, "waitsOf", "(LHornBridge$Lane;II)I"⟩
abbrev cX1_layPlan : ByteArray := prog_3_method_13_code
def yX1_layPlan : MethodName := ⟨RX1, "layPlan", "()Z"⟩
abbrev cX1_shipMayBegin : ByteArray := prog_3_method_14_code
def yX1_shipMayBegin : MethodName := ⟨RX1, "shipMayBegin", "(IIII)Z"⟩
abbrev cX1_cartMayBegin : ByteArray := prog_3_method_15_code
def yX1_cartMayBegin : MethodName := ⟨RX1, "cartMayBegin", "(IIII)Z"⟩
abbrev cX1_addAct : ByteArray := prog_3_method_16_code
def yX1_addAct : MethodName := ⟨RX1, "addAct", "(III)V"⟩
abbrev cX1_tellPlan : ByteArray := prog_3_method_17_code
def yX1_tellPlan : MethodName := ⟨RX1, "tellPlan", "()V"⟩
abbrev cX1_dearestByPlan : ByteArray := prog_3_method_18_code
def yX1_dearestByPlan : MethodName := ⟨RX1, "dearestByPlan", "(LHornBridge$River;)I"⟩
abbrev cX1_waitsByNumber : ByteArray := prog_3_method_19_code
def yX1_waitsByNumber : MethodName := ⟨RX1, "waitsByNumber", "(LHornBridge$Lane;[II)I"⟩
abbrev cX1_openedByPlan : ByteArray := prog_3_method_20_code
def yX1_openedByPlan : MethodName := ⟨RX1, "openedByPlan", "()I"⟩
abbrev cX1_busiestByPlan : ByteArray := prog_3_method_21_code
def yX1_busiestByPlan : MethodName := ⟨RX1, "busiestByPlan", "()I"⟩
abbrev cX1_waitingIn : ByteArray := prog_3_method_22_code
def yX1_waitingIn : MethodName := ⟨RX1, "waitingIn", "(LHornBridge$Lane;[II)I"⟩
def RX2 : String := "HornBridge$Keeper"
def TX2 : u_T := fun k => match k with
  | 0 => ("HornBridge$Keeper", "ships", "LHornBridge$Lane;", true)
  | 1 => ("HornBridge$Keeper", "carts", "LHornBridge$Lane;", true)
  | 2 => ("HornBridge$Keeper", "shipStates", "[I", true)
  | 3 => ("HornBridge$Keeper", "facts", "[I", true)
  | 4 => ("HornBridge$Keeper", "draws", "I", false)
  | 5 => ("HornBridge$Keeper", "minute", "I", false)
  | 6 => ("HornBridge$Keeper", "open", "Z", false)
  | 7 => ("HornBridge$Keeper", "underWay", "I", false)
  | 8 => ("HornBridge$Keeper", "until", "I", false)
  | 9 => ("HornBridge$Keeper", "lastTurnEnd", "I", false)
  | 10 => ("HornBridge$Keeper", "cartsBegun", "I", false)
  | 11 => ("HornBridge$Keeper", "waits", "I", false)
  | 12 => ("HornBridge$Keeper", "struck", "I", false)
  | 13 => ("HornBridge$Keeper", "turnsBegun", "I", false)
  | 14 => ("HornBridge$Keeper", "shipsPassed", "I", false)
  | 15 => ("HornBridge$Keeper", "hasTold", "Z", false)
  | _ => ("HornBridge$Keeper", "dayTold", "[I", true)
def tyX2 : Nat → FieldType := fun k => match k with
  | 0 => .object "HornBridge$Lane"
  | 1 => .object "HornBridge$Lane"
  | 2 => .array .int
  | 3 => .array .int
  | 4 => .int
  | 5 => .int
  | 6 => .boolean
  | 7 => .int
  | 8 => .int
  | 9 => .int
  | 10 => .int
  | 11 => .int
  | 12 => .int
  | 13 => .int
  | 14 => .int
  | 15 => .boolean
  | _ => .array .int
abbrev wsX20 : List Cond := u_ws RX2 TX2 17
theorem nmX2 : ∀ a, a < 17 → ∀ b, b < 17 → a ≠ b → (TX2 a).2.1 ≠ (TX2 b).2.1 := by decide +kernel
theorem tyX2_ok : ∀ k, k < 17 → parseFieldDescriptor (TX2 k).2.2.1 = some (tyX2 k) := by decide +kernel
abbrev cX2_init : ByteArray := prog_4_method_1_code
def yX2_init : MethodName := ⟨RX2, "<init>", "()V"⟩
abbrev cX2_spendDay : ByteArray := prog_4_method_2_code
def yX2_spendDay : MethodName := ⟨RX2, "spendDay", "(LHornBridge$River;LHornBridge$Rules;I)V"⟩
abbrev cX2_comeLater : ByteArray := prog_4_method_3_code
def yX2_comeLater : MethodName := ⟨RX2, "comeLater", "(LHornBridge$River;I)V"⟩
abbrev cX2_delay : ByteArray := prog_4_method_4_code
def yX2_delay : MethodName := ⟨RX2, "delay", "(I)I"⟩
abbrev cX2_endWhatIsOver : ByteArray := prog_4_method_5_code
def yX2_endWhatIsOver : MethodName := ⟨RX2, "endWhatIsOver", "()V"⟩
abbrev cX2_strikeSails : ByteArray := prog_4_method_6_code
def yX2_strikeSails : MethodName := ⟨RX2, "strikeSails", "()V"⟩
abbrev cX2_strikeIfDue : ByteArray := prog_4_method_7_code
def yX2_strikeIfDue : MethodName := ⟨RX2, "strikeIfDue", "(I)V"⟩
abbrev cX2_firstShipLeft : ByteArray := prog_4_method_8_code
def yX2_firstShipLeft : MethodName := ⟨RX2, "firstShipLeft", "()I"⟩
abbrev cX2_obey : ByteArray := prog_4_method_9_code
def yX2_obey : MethodName := ⟨RX2, "obey", "(LHornBridge$River;LHornBridge$Rules;)V"⟩
abbrev cX2_gatherFacts : ByteArray := prog_4_method_10_code
def yX2_gatherFacts : MethodName := ⟨RX2, "gatherFacts", "()V"⟩
abbrev cX2_beginNext : ByteArray := prog_4_method_11_code
def yX2_beginNext : MethodName := ⟨RX2, "beginNext", "()V"⟩
abbrev cX2_begin : ByteArray := prog_4_method_12_code
def yX2_begin : MethodName := ⟨RX2, "begin", "(ILHornBridge$Lane;I)V"⟩
abbrev cX2_left : ByteArray := prog_4_method_13_code
def yX2_left : MethodName := ⟨RX2, "left", "()I"⟩
abbrev cX2_tellDay : ByteArray := prog_4_method_14_code
def yX2_tellDay : MethodName := ⟨RX2, "tellDay", "()V"⟩
def RX3 : String := "HornBridge$Keyword"
def TX3 : u_T := fun k => match k with
  | _ => ("", "", "", false)
def tyX3 : Nat → FieldType := fun k => match k with
  | _ => .int
abbrev wsX30 : List Cond := u_ws RX3 TX3 0
theorem nmX3 : ∀ a, a < 0 → ∀ b, b < 0 → a ≠ b → (TX3 a).2.1 ≠ (TX3 b).2.1 := by decide +kernel
theorem tyX3_ok : ∀ k, k < 0 → parseFieldDescriptor (TX3 k).2.2.1 = some (tyX3 k) := by decide +kernel
def RX4 : String := "HornBridge$Lane"
def TX4 : u_T := fun k => match k with
  | 0 => ("HornBridge$Lane", "many", "I", false)
  | 1 => ("HornBridge$Lane", "who", "[I", true)
  | 2 => ("HornBridge$Lane", "at", "[I", true)
  | 3 => ("HornBridge$Lane", "takes", "[I", true)
  | 4 => ("HornBridge$Lane", "costs", "[I", true)
  | _ => ("HornBridge$Lane", "sail", "[Z", true)
def tyX4 : Nat → FieldType := fun k => match k with
  | 0 => .int
  | 1 => .array .int
  | 2 => .array .int
  | 3 => .array .int
  | 4 => .array .int
  | _ => .array .boolean
abbrev wsX40 : List Cond := u_ws RX4 TX4 6
theorem nmX4 : ∀ a, a < 6 → ∀ b, b < 6 → a ≠ b → (TX4 a).2.1 ≠ (TX4 b).2.1 := by decide +kernel
theorem tyX4_ok : ∀ k, k < 6 → parseFieldDescriptor (TX4 k).2.2.1 = some (tyX4 k) := by decide +kernel
abbrev cX4_init : ByteArray := prog_6_method_1_code
def yX4_init : MethodName := ⟨RX4, "<init>", "()V"⟩
abbrev cX4_clear : ByteArray := prog_6_method_2_code
def yX4_clear : MethodName := ⟨RX4, "clear", "()V"⟩
abbrev cX4_join : ByteArray := prog_6_method_3_code
def yX4_join : MethodName := ⟨RX4, "join", "(LHornBridge$Lane;II)V"⟩
abbrev cX4_put : ByteArray := prog_6_method_4_code
def yX4_put : MethodName := ⟨RX4, "put", "(IIIIIZ)V"⟩
def RX5 : String := "HornBridge$River"
def TX5 : u_T := fun k => match k with
  | 0 => ("HornBridge$River", "ports", "I", false)
  | 1 => ("HornBridge$River", "blasts", "[J", true)
  | 2 => ("HornBridge$River", "sounds", "[J", true)
  | 3 => ("HornBridge$River", "turns", "I", false)
  | 4 => ("HornBridge$River", "frost", "I", false)
  | 5 => ("HornBridge$River", "frostFrom", "I", false)
  | 6 => ("HornBridge$River", "echo", "I", false)
  | 7 => ("HornBridge$River", "ships", "LHornBridge$Lane;", true)
  | 8 => ("HornBridge$River", "shipPorts", "[I", true)
  | _ => ("HornBridge$River", "carts", "LHornBridge$Lane;", true)
def tyX5 : Nat → FieldType := fun k => match k with
  | 0 => .int
  | 1 => .array .long
  | 2 => .array .long
  | 3 => .int
  | 4 => .int
  | 5 => .int
  | 6 => .int
  | 7 => .object "HornBridge$Lane"
  | 8 => .array .int
  | _ => .object "HornBridge$Lane"
abbrev wsX50 : List Cond := u_ws RX5 TX5 10
theorem nmX5 : ∀ a, a < 10 → ∀ b, b < 10 → a ≠ b → (TX5 a).2.1 ≠ (TX5 b).2.1 := by decide +kernel
theorem tyX5_ok : ∀ k, k < 10 → parseFieldDescriptor (TX5 k).2.2.1 = some (tyX5 k) := by decide +kernel
abbrev cX5_init : ByteArray := prog_7_method_1_code
def yX5_init : MethodName := ⟨RX5, "<init>", "()V"⟩
abbrev cX5_turnLength : ByteArray := prog_7_method_2_code
def yX5_turnLength : MethodName := ⟨RX5, "turnLength", "(II)I"⟩
abbrev cX5_soundOf : ByteArray := prog_7_method_3_code
def yX5_soundOf : MethodName := ⟨RX5, "soundOf", "(J)J"⟩
abbrev cX5_withEcho : ByteArray := prog_7_method_4_code
def yX5_withEcho : MethodName := ⟨RX5, "withEcho", "(JI)J"⟩
abbrev cX5_heardOf : ByteArray := prog_7_method_5_code
def yX5_heardOf : MethodName := ⟨RX5, "heardOf", "(I)J"⟩
abbrev cX5_bothHeard : ByteArray := prog_7_method_6_code
def yX5_bothHeard : MethodName := ⟨RX5, "bothHeard", "(III)J"⟩
abbrev cX5_leastBeats : ByteArray := prog_7_method_7_code
def yX5_leastBeats : MethodName := ⟨RX5, "leastBeats", "(II)I"⟩
abbrev cX5_countReadings : ByteArray := prog_7_method_8_code
def yX5_countReadings : MethodName := ⟨RX5, "countReadings", "(JI)I"⟩
abbrev cX5_countBeats : ByteArray := prog_7_method_9_code
def yX5_countBeats : MethodName := ⟨RX5, "countBeats", "(JII)I"⟩
abbrev cX5_couplesAlike : ByteArray := prog_7_method_10_code
def yX5_couplesAlike : MethodName := ⟨RX5, "couplesAlike", "(I)I"⟩
def RX6 : String := "HornBridge$RiverReader"
def TX6 : u_T := fun k => match k with
  | 0 => ("HornBridge$RiverReader", "tokens", "LHornBridge$Tokens;", true)
  | 1 => ("HornBridge$RiverReader", "river", "LHornBridge$River;", true)
  | 2 => ("HornBridge$RiverReader", "portNames", "[J", true)
  | 3 => ("HornBridge$RiverReader", "names", "[J", true)
  | 4 => ("HornBridge$RiverReader", "manyNames", "I", false)
  | 5 => ("HornBridge$RiverReader", "turnsTold", "Z", false)
  | 6 => ("HornBridge$RiverReader", "frostTold", "Z", false)
  | _ => ("HornBridge$RiverReader", "echoTold", "Z", false)
def tyX6 : Nat → FieldType := fun k => match k with
  | 0 => .object "HornBridge$Tokens"
  | 1 => .object "HornBridge$River"
  | 2 => .array .long
  | 3 => .array .long
  | 4 => .int
  | 5 => .boolean
  | 6 => .boolean
  | _ => .boolean
abbrev wsX60 : List Cond := u_ws RX6 TX6 8
theorem nmX6 : ∀ a, a < 8 → ∀ b, b < 8 → a ≠ b → (TX6 a).2.1 ≠ (TX6 b).2.1 := by decide +kernel
theorem tyX6_ok : ∀ k, k < 8 → parseFieldDescriptor (TX6 k).2.2.1 = some (tyX6 k) := by decide +kernel
abbrev cX6_init : ByteArray := prog_8_method_1_code
def yX6_init : MethodName := ⟨RX6, "<init>", "(LHornBridge$Tokens;)V"⟩
abbrev cX6_readAll : ByteArray := prog_8_method_2_code
def yX6_readAll : MethodName := ⟨RX6, "readAll", "()Z"⟩
abbrev cX6_readPort : ByteArray := prog_8_method_3_code
def yX6_readPort : MethodName := ⟨RX6, "readPort", "()Z"⟩
abbrev cX6_readTurns : ByteArray := prog_8_method_4_code
def yX6_readTurns : MethodName := ⟨RX6, "readTurns", "()Z"⟩
abbrev cX6_readFrost : ByteArray := prog_8_method_5_code
def yX6_readFrost : MethodName := ⟨RX6, "readFrost", "()Z"⟩
abbrev cX6_readEcho : ByteArray := prog_8_method_6_code
def yX6_readEcho : MethodName := ⟨RX6, "readEcho", "()Z"⟩
abbrev cX6_readShip : ByteArray := prog_8_method_7_code
def yX6_readShip : MethodName := ⟨RX6, "readShip", "()Z"⟩
abbrev cX6_readCart : ByteArray := prog_8_method_8_code
def yX6_readCart : MethodName := ⟨RX6, "readCart", "()Z"⟩
abbrev cX6_readComing : ByteArray := prog_8_method_9_code
def yX6_readComing : MethodName := ⟨RX6, "readComing", "(LHornBridge$Lane;)Z"⟩
abbrev cX6_takeNewName : ByteArray := prog_8_method_10_code
def yX6_takeNewName : MethodName := ⟨RX6, "takeNewName", "()Z"⟩
abbrev cX6_portNamed : ByteArray := prog_8_method_11_code
def yX6_portNamed : MethodName := ⟨RX6, "portNamed", "(J)I"⟩
def RX7 : String := "HornBridge$Rules"
def TX7 : u_T := fun k => match k with
  | 0 => ("HornBridge$Rules", "many", "I", false)
  | 1 => ("HornBridge$Rules", "acts", "[I", true)
  | 2 => ("HornBridge$Rules", "ends", "[I", true)
  | 3 => ("HornBridge$Rules", "steps", "I", false)
  | 4 => ("HornBridge$Rules", "step", "[I", true)
  | 5 => ("HornBridge$Rules", "fact", "[I", true)
  | _ => ("HornBridge$Rules", "number", "[I", true)
def tyX7 : Nat → FieldType := fun k => match k with
  | 0 => .int
  | 1 => .array .int
  | 2 => .array .int
  | 3 => .int
  | 4 => .array .int
  | 5 => .array .int
  | _ => .array .int
abbrev wsX70 : List Cond := u_ws RX7 TX7 7
theorem nmX7 : ∀ a, a < 7 → ∀ b, b < 7 → a ≠ b → (TX7 a).2.1 ≠ (TX7 b).2.1 := by decide +kernel
theorem tyX7_ok : ∀ k, k < 7 → parseFieldDescriptor (TX7 k).2.2.1 = some (tyX7 k) := by decide +kernel
abbrev cX7_init : ByteArray := prog_9_method_1_code
def yX7_init : MethodName := ⟨RX7, "<init>", "(I)V"⟩
abbrev cX7_addStep : ByteArray := prog_9_method_2_code
def yX7_addStep : MethodName := ⟨RX7, "addStep", "(III)V"⟩
abbrev cX7_endRule : ByteArray := prog_9_method_3_code
def yX7_endRule : MethodName := ⟨RX7, "endRule", "(I)V"⟩
abbrev cX7_actBy : ByteArray := prog_9_method_4_code
def yX7_actBy : MethodName := ⟨RX7, "actBy", "([I)I"⟩
abbrev cX7_holds : ByteArray := prog_9_method_5_code
def yX7_holds : MethodName := ⟨RX7, "holds", "(II[I)Z"⟩
abbrev cX7_compares : ByteArray := prog_9_method_6_code
def yX7_compares : MethodName := ⟨RX7, "compares", "(I[I)Z"⟩
def RX8 : String := "HornBridge$RulesReader"
def TX8 : u_T := fun k => match k with
  | 0 => ("HornBridge$RulesReader", "tokens", "LHornBridge$Tokens;", true)
  | 1 => ("HornBridge$RulesReader", "rules", "LHornBridge$Rules;", true)
  | _ => ("HornBridge$RulesReader", "manyCases", "I", false)
def tyX8 : Nat → FieldType := fun k => match k with
  | 0 => .object "HornBridge$Tokens"
  | 1 => .object "HornBridge$Rules"
  | _ => .int
abbrev wsX80 : List Cond := u_ws RX8 TX8 3
theorem nmX8 : ∀ a, a < 3 → ∀ b, b < 3 → a ≠ b → (TX8 a).2.1 ≠ (TX8 b).2.1 := by decide +kernel
theorem tyX8_ok : ∀ k, k < 3 → parseFieldDescriptor (TX8 k).2.2.1 = some (tyX8 k) := by decide +kernel
abbrev cX8_init : ByteArray := prog_10_method_1_code
def yX8_init : MethodName := ⟨RX8, "<init>", "(LHornBridge$Tokens;LHornBridge$Rules;)V"⟩
abbrev cX8_readAll : ByteArray := prog_10_method_2_code
def yX8_readAll : MethodName := ⟨RX8, "readAll", "()Z"⟩
abbrev cX8_readRule : ByteArray := prog_10_method_3_code
def yX8_readRule : MethodName := ⟨RX8, "readRule", "()Z"⟩
abbrev cX8_actTold : ByteArray := prog_10_method_4_code
def yX8_actTold : MethodName := ⟨RX8, "actTold", "()I"⟩
abbrev cX8_readEither : ByteArray := prog_10_method_5_code
def yX8_readEither : MethodName := ⟨RX8, "readEither", "(I)Z"⟩
abbrev cX8_readBoth : ByteArray := prog_10_method_6_code
def yX8_readBoth : MethodName := ⟨RX8, "readBoth", "(I)Z"⟩
abbrev cX8_readOne : ByteArray := prog_10_method_7_code
def yX8_readOne : MethodName := ⟨RX8, "readOne", "(I)Z"⟩
abbrev cX8_readNested : ByteArray := prog_10_method_8_code
def yX8_readNested : MethodName := ⟨RX8, "readNested", "(I)Z"⟩
abbrev cX8_factTold : ByteArray := prog_10_method_9_code
def yX8_factTold : MethodName := ⟨RX8, "factTold", "()I"⟩
abbrev cX8_readCase : ByteArray := prog_10_method_10_code
def yX8_readCase : MethodName := ⟨RX8, "readCase", "(I)Z"⟩
abbrev cX8_comparesTold : ByteArray := prog_10_method_11_code
def yX8_comparesTold : MethodName := ⟨RX8, "comparesTold", "()I"⟩
def RX9 : String := "HornBridge$Tokens"
def TX9 : u_T := fun k => match k with
  | 0 => ("HornBridge$Tokens", "text", "[B", true)
  | 1 => ("HornBridge$Tokens", "length", "I", true)
  | 2 => ("HornBridge$Tokens", "next", "I", false)
  | 3 => ("HornBridge$Tokens", "kind", "I", false)
  | 4 => ("HornBridge$Tokens", "place", "I", false)
  | 5 => ("HornBridge$Tokens", "size", "I", false)
  | 6 => ("HornBridge$Tokens", "letters", "J", false)
  | 7 => ("HornBridge$Tokens", "keyword", "LHornBridge$Keyword;", false)
  | 8 => ("HornBridge$Tokens", "number", "I", false)
  | 9 => ("HornBridge$Tokens", "sign", "I", false)
  | 10 => ("HornBridge$Tokens", "fault", "I", false)
  | _ => ("HornBridge$Tokens", "faultPlace", "I", false)
def tyX9 : Nat → FieldType := fun k => match k with
  | 0 => .array .byte
  | 1 => .int
  | 2 => .int
  | 3 => .int
  | 4 => .int
  | 5 => .int
  | 6 => .long
  | 7 => .object "HornBridge$Keyword"
  | 8 => .int
  | 9 => .int
  | 10 => .int
  | _ => .int
abbrev wsX90 : List Cond := u_ws RX9 TX9 12
theorem nmX9 : ∀ a, a < 12 → ∀ b, b < 12 → a ≠ b → (TX9 a).2.1 ≠ (TX9 b).2.1 := by decide +kernel
theorem tyX9_ok : ∀ k, k < 12 → parseFieldDescriptor (TX9 k).2.2.1 = some (tyX9 k) := by decide +kernel
abbrev cX9_init : ByteArray := prog_11_method_1_code
def yX9_init : MethodName := ⟨RX9, "<init>", "([BI)V"⟩
abbrev cX9_step : ByteArray := prog_11_method_2_code
def yX9_step : MethodName := ⟨RX9, "step", "()V"⟩
abbrev cX9_stepWord : ByteArray := prog_11_method_3_code
def yX9_stepWord : MethodName := ⟨RX9, "stepWord", "()V"⟩
abbrev cX9_stepNumber : ByteArray := prog_11_method_4_code
def yX9_stepNumber : MethodName := ⟨RX9, "stepNumber", "()V"⟩
abbrev cX9_isSign : ByteArray := prog_11_method_5_code
def yX9_isSign : MethodName := ⟨RX9, "isSign", "(B)Z"⟩
abbrev cX9_refuseToken : ByteArray := prog_11_method_6_code
def yX9_refuseToken : MethodName := ⟨RX9, "refuseToken", "(I)Z"⟩
abbrev cX9_isName : ByteArray := prog_11_method_7_code
def yX9_isName : MethodName := ⟨RX9, "isName", "()Z"⟩
abbrev cX9_isBlasts : ByteArray := prog_11_method_8_code
def yX9_isBlasts : MethodName := ⟨RX9, "isBlasts", "()Z"⟩
abbrev cX9_isSignOf : ByteArray := prog_11_method_9_code
def yX9_isSignOf : MethodName := ⟨RX9, "isSignOf", "(C)Z"⟩
abbrev cX9_takeKeyword : ByteArray := prog_11_method_10_code
def yX9_takeKeyword : MethodName := ⟨RX9, "takeKeyword", "(LHornBridge$Keyword;)Z"⟩
abbrev cX9_takeSign : ByteArray := prog_11_method_11_code
def yX9_takeSign : MethodName := ⟨RX9, "takeSign", "(C)Z"⟩
abbrev cX9_takeNumber : ByteArray := prog_11_method_12_code
def yX9_takeNumber : MethodName := ⟨RX9, "takeNumber", "(II)Z"⟩
def RX10 : String := "HornBridge$Tray"
def TX10 : u_T := fun k => match k with
  | 0 => ("HornBridge$Tray", "row", "[J", true)
  | 1 => ("HornBridge$Tray", "sort", "I", false)
  | _ => ("HornBridge$Tray", "many", "I", false)
def tyX10 : Nat → FieldType := fun k => match k with
  | 0 => .array .long
  | 1 => .int
  | _ => .int
abbrev wsX100 : List Cond := u_ws RX10 TX10 3
theorem nmX10 : ∀ a, a < 3 → ∀ b, b < 3 → a ≠ b → (TX10 a).2.1 ≠ (TX10 b).2.1 := by decide +kernel
theorem tyX10_ok : ∀ k, k < 3 → parseFieldDescriptor (TX10 k).2.2.1 = some (tyX10 k) := by decide +kernel
abbrev cX10_init : ByteArray := prog_12_method_1_code
def yX10_init : MethodName := ⟨RX10, "<init>", "()V"⟩
abbrev cX10_lay : ByteArray := prog_12_method_2_code
def yX10_lay : MethodName := ⟨RX10, "lay", "(II)V"⟩
abbrev cX10_isMissing : ByteArray := prog_12_method_3_code
def yX10_isMissing : MethodName := ⟨RX10, "isMissing", "()Z"⟩
abbrev cX10_hasStretch : ByteArray := prog_12_method_4_code
def yX10_hasStretch : MethodName := ⟨RX10, "hasStretch", "(II)Z"⟩
abbrev cX10_put : ByteArray := prog_12_method_5_code
def yX10_put : MethodName := ⟨RX10, "put", "(IJ)V"⟩
def RX11 : String := "HornBridge"
def TX11 : u_T := fun k => match k with
  | 0 => ("HornBridge", "status", "I", false)
  | 1 => ("HornBridge", "top", "J", false)
  | 2 => ("HornBridge", "bottom", "J", false)
  | 3 => ("HornBridge", "trays", "[LHornBridge$Tray;", true)
  | 4 => ("HornBridge", "tape", "[B", true)
  | 5 => ("HornBridge", "fed", "I", false)
  | 6 => ("HornBridge", "river", "LHornBridge$River;", false)
  | 7 => ("HornBridge", "rules", "LHornBridge$Rules;", false)
  | 8 => ("HornBridge", "faultKind", "I", false)
  | 9 => ("HornBridge", "faultPlace", "I", false)
  | 10 => ("HornBridge", "markedRivers", "[LHornBridge$River;", true)
  | 11 => ("HornBridge", "markedRules", "[LHornBridge$Rules;", true)
  | 12 => ("HornBridge", "marks", "I", false)
  | 13 => ("HornBridge", "readingsTold", "[I", true)
  | 14 => ("HornBridge", "manyReadings", "I", false)
  | 15 => ("HornBridge", "codeSearch", "LHornBridge$CodeSearch;", true)
  | 16 => ("HornBridge", "crossing", "LHornBridge$Crossing;", true)
  | _ => ("HornBridge", "keeper", "LHornBridge$Keeper;", true)
def tyX11 : Nat → FieldType := fun k => match k with
  | 0 => .int
  | 1 => .long
  | 2 => .long
  | 3 => .array (.object "HornBridge$Tray")
  | 4 => .array .byte
  | 5 => .int
  | 6 => .object "HornBridge$River"
  | 7 => .object "HornBridge$Rules"
  | 8 => .int
  | 9 => .int
  | 10 => .array (.object "HornBridge$River")
  | 11 => .array (.object "HornBridge$Rules")
  | 12 => .int
  | 13 => .array .int
  | 14 => .int
  | 15 => .object "HornBridge$CodeSearch"
  | 16 => .object "HornBridge$Crossing"
  | _ => .object "HornBridge$Keeper"
abbrev wsX110 : List Cond := u_ws RX11 TX11 18
theorem nmX11 : ∀ a, a < 18 → ∀ b, b < 18 → a ≠ b → (TX11 a).2.1 ≠ (TX11 b).2.1 := by decide +kernel
theorem tyX11_ok : ∀ k, k < 18 → parseFieldDescriptor (TX11 k).2.2.1 = some (tyX11 k) := by decide +kernel
abbrev cX11_init : ByteArray := prog_1_method_1_code
def yX11_init : MethodName := ⟨RX11, "<init>", "()V"⟩
abbrev cX11_status : ByteArray := prog_1_method_2_code
def yX11_status : MethodName := ⟨RX11, "status", "()I"⟩
abbrev cX11_top : ByteArray := prog_1_method_3_code
def yX11_top : MethodName := ⟨RX11, "top", "()J"⟩
abbrev cX11_bottom : ByteArray := prog_1_method_4_code
def yX11_bottom : MethodName := ⟨RX11, "bottom", "()J"⟩
abbrev cX11_tray : ByteArray := prog_1_method_5_code
def yX11_tray : MethodName := ⟨RX11, "tray", "(III)Z"⟩
abbrev cX11_write : ByteArray := prog_1_method_6_code
def yX11_write : MethodName := ⟨RX11, "write", "(IIJ)Z"⟩
abbrev cX11_read : ByteArray := prog_1_method_7_code
def yX11_read : MethodName := ⟨RX11, "read", "(II)J"⟩
abbrev cX11_pour : ByteArray := prog_1_method_8_code
def yX11_pour : MethodName := ⟨RX11, "pour", "(IIIII)Z"⟩
abbrev cX11_isTray : ByteArray := prog_1_method_9_code
def yX11_isTray : MethodName := ⟨RX11, "isTray", "(I)Z"⟩
abbrev cX11_wrongPlace : ByteArray := prog_1_method_10_code
def yX11_wrongPlace : MethodName := ⟨RX11, "wrongPlace", "(II)I"⟩
abbrev cX11_feed : ByteArray := prog_1_method_11_code
def yX11_feed : MethodName := ⟨RX11, "feed", "(IIIII)I"⟩
abbrev cX11_feedOne : ByteArray := prog_1_method_12_code
def yX11_feedOne : MethodName := ⟨RX11, "feedOne", "(I)V"⟩
abbrev cX11_river : ByteArray := prog_1_method_13_code
def yX11_river : MethodName := ⟨RX11, "river", "(I)I"⟩
abbrev cX11_rules : ByteArray := prog_1_method_14_code
def yX11_rules : MethodName := ⟨RX11, "rules", "(I)I"⟩
abbrev cX11_endText : ByteArray := prog_1_method_15_code
def yX11_endText : MethodName := ⟨RX11, "endText", "(LHornBridge$Tokens;)V"⟩
abbrev cX11_fault : ByteArray := prog_1_method_16_code
def yX11_fault : MethodName := ⟨RX11, "fault", "(I)I"⟩
abbrev cX11_told : ByteArray := prog_1_method_17_code
def yX11_told : MethodName := ⟨RX11, "told", "(I)I"⟩
abbrev cX11_ship : ByteArray := prog_1_method_18_code
def yX11_ship : MethodName := ⟨RX11, "ship", "(II)I"⟩
abbrev cX11_cart : ByteArray := prog_1_method_19_code
def yX11_cart : MethodName := ⟨RX11, "cart", "(II)I"⟩
abbrev cX11_nextShip : ByteArray := prog_1_method_20_code
def yX11_nextShip : MethodName := ⟨RX11, "nextShip", "(I)I"⟩
abbrev cX11_nextCart : ByteArray := prog_1_method_21_code
def yX11_nextCart : MethodName := ⟨RX11, "nextCart", "(I)I"⟩
abbrev cX11_isPort : ByteArray := prog_1_method_22_code
def yX11_isPort : MethodName := ⟨RX11, "isPort", "(I)Z"⟩
abbrev cX11_isShip : ByteArray := prog_1_method_23_code
def yX11_isShip : MethodName := ⟨RX11, "isShip", "(I)Z"⟩
abbrev cX11_isCart : ByteArray := prog_1_method_24_code
def yX11_isCart : MethodName := ⟨RX11, "isCart", "(I)Z"⟩
abbrev cX11_sound : ByteArray := prog_1_method_25_code
def yX11_sound : MethodName := ⟨RX11, "sound", "(I)J"⟩
abbrev cX11_heard : ByteArray := prog_1_method_26_code
def yX11_heard : MethodName := ⟨RX11, "heard", "(I)J"⟩
abbrev cX11_together : ByteArray := prog_1_method_27_code
def yX11_together : MethodName := ⟨RX11, "together", "(III)J"⟩
abbrev cX11_lasts : ByteArray := prog_1_method_28_code
def yX11_lasts : MethodName := ⟨RX11, "lasts", "(I)I"⟩
abbrev cX11_far : ByteArray := prog_1_method_29_code
def yX11_far : MethodName := ⟨RX11, "far", "(II)I"⟩
abbrev cX11_readings : ByteArray := prog_1_method_30_code
def yX11_readings : MethodName := ⟨RX11, "readings", "(J)I"⟩
abbrev cX11_addReading : ByteArray := prog_1_method_31_code
def yX11_addReading : MethodName := ⟨RX11, "addReading", "(III)V"⟩
abbrev cX11_reading : ByteArray := prog_1_method_32_code
def yX11_reading : MethodName := ⟨RX11, "reading", "(II)I"⟩
abbrev cX11_doubt : ByteArray := prog_1_method_33_code
def yX11_doubt : MethodName := ⟨RX11, "doubt", "(JI)Z"⟩
abbrev cX11_alike : ByteArray := prog_1_method_34_code
def yX11_alike : MethodName := ⟨RX11, "alike", "()I"⟩
abbrev cX11_code : ByteArray := prog_1_method_35_code
def yX11_code : MethodName := ⟨RX11, "code", "(III)I"⟩
abbrev cX11_codeAt : ByteArray := prog_1_method_36_code
def yX11_codeAt : MethodName := ⟨RX11, "codeAt", "(I)J"⟩
abbrev cX11_parts : ByteArray := prog_1_method_37_code
def yX11_parts : MethodName := ⟨RX11, "parts", "(J)I"⟩
abbrev cX11_clearBeats : ByteArray := prog_1_method_38_code
def yX11_clearBeats : MethodName := ⟨RX11, "clearBeats", "(II)I"⟩
abbrev cX11_clearEcho : ByteArray := prog_1_method_39_code
def yX11_clearEcho : MethodName := ⟨RX11, "clearEcho", "()I"⟩
abbrev cX11_silent : ByteArray := prog_1_method_40_code
def yX11_silent : MethodName := ⟨RX11, "silent", "()I"⟩
abbrev cX11_least : ByteArray := prog_1_method_41_code
def yX11_least : MethodName := ⟨RX11, "least", "()I"⟩
abbrev cX11_plan : ByteArray := prog_1_method_42_code
def yX11_plan : MethodName := ⟨RX11, "plan", "()I"⟩
abbrev cX11_planAt : ByteArray := prog_1_method_43_code
def yX11_planAt : MethodName := ⟨RX11, "planAt", "(II)I"⟩
abbrev cX11_worth : ByteArray := prog_1_method_44_code
def yX11_worth : MethodName := ⟨RX11, "worth", "(I)I"⟩
abbrev cX11_quicker : ByteArray := prog_1_method_45_code
def yX11_quicker : MethodName := ⟨RX11, "quicker", "(I)I"⟩
abbrev cX11_away : ByteArray := prog_1_method_46_code
def yX11_away : MethodName := ⟨RX11, "away", "()I"⟩
abbrev cX11_later : ByteArray := prog_1_method_47_code
def yX11_later : MethodName := ⟨RX11, "later", "(II)I"⟩
abbrev cX11_slack : ByteArray := prog_1_method_48_code
def yX11_slack : MethodName := ⟨RX11, "slack", "(I)I"⟩
abbrev cX11_without : ByteArray := prog_1_method_49_code
def yX11_without : MethodName := ⟨RX11, "without", "(I)I"⟩
abbrev cX11_dearest : ByteArray := prog_1_method_50_code
def yX11_dearest : MethodName := ⟨RX11, "dearest", "()I"⟩
abbrev cX11_opened : ByteArray := prog_1_method_51_code
def yX11_opened : MethodName := ⟨RX11, "opened", "()I"⟩
abbrev cX11_busiest : ByteArray := prog_1_method_52_code
def yX11_busiest : MethodName := ⟨RX11, "busiest", "()I"⟩
abbrev cX11_leastAsTold : ByteArray := prog_1_method_53_code
def yX11_leastAsTold : MethodName := ⟨RX11, "leastAsTold", "()I"⟩
abbrev cX11_answerWaits : ByteArray := prog_1_method_54_code
def yX11_answerWaits : MethodName := ⟨RX11, "answerWaits", "(I)I"⟩
abbrev cX11_keep : ByteArray := prog_1_method_55_code
def yX11_keep : MethodName := ⟨RX11, "keep", "(I)I"⟩
abbrev cX11_kept : ByteArray := prog_1_method_56_code
def yX11_kept : MethodName := ⟨RX11, "kept", "(I)I"⟩
abbrev cX11_odds : ByteArray := prog_1_method_57_code
def yX11_odds : MethodName := ⟨RX11, "odds", "(II)Z"⟩
abbrev cX11_waits : ByteArray := prog_1_method_58_code
def yX11_waits : MethodName := ⟨RX11, "waits", "(II)I"⟩
abbrev cX11_wrongSeeds : ByteArray := prog_1_method_59_code
def yX11_wrongSeeds : MethodName := ⟨RX11, "wrongSeeds", "(II)I"⟩
abbrev cX11_mark : ByteArray := prog_1_method_60_code
def yX11_mark : MethodName := ⟨RX11, "mark", "()I"⟩
abbrev cX11_back : ByteArray := prog_1_method_61_code
def yX11_back : MethodName := ⟨RX11, "back", "()I"⟩
abbrev cX11_answer : ByteArray := prog_1_method_62_code
def yX11_answer : MethodName := ⟨RX11, "answer", "(I)I"⟩
abbrev cX11_answerLong : ByteArray := prog_1_method_63_code
def yX11_answerLong : MethodName := ⟨RX11, "answerLong", "(J)J"⟩
abbrev cX11_grant : ByteArray := prog_1_method_64_code
def yX11_grant : MethodName := ⟨RX11, "grant", "()Z"⟩
abbrev cX11_refuse : ByteArray := prog_1_method_65_code
def yX11_refuse : MethodName := ⟨RX11, "refuse", "(I)I"⟩
abbrev cX11_deny : ByteArray := prog_1_method_66_code
def yX11_deny : MethodName := ⟨RX11, "deny", "(I)Z"⟩
abbrev cX11_tellFraction : ByteArray := prog_1_method_67_code
def yX11_tellFraction : MethodName := ⟨RX11, "tellFraction", "(II)V"⟩
abbrev cX11_commonDivisor : ByteArray := prog_1_method_68_code
def yX11_commonDivisor : MethodName := ⟨RX11, "commonDivisor", "(II)I"⟩
def RX12 : String := "HornBridgeModel"
def TX12 : u_T := fun k => match k with
  | 0 => ("HornBridgeModel", "at", "[I", true)
  | 1 => ("HornBridgeModel", "names", "[J", true)
  | 2 => ("HornBridgeModel", "status", "I", false)
  | 3 => ("HornBridgeModel", "top", "J", false)
  | 4 => ("HornBridgeModel", "bottom", "J", false)
  | 5 => ("HornBridgeModel", "sort", "[I", true)
  | 6 => ("HornBridgeModel", "trayMany", "[I", true)
  | 7 => ("HornBridgeModel", "trays", "[J", true)
  | 8 => ("HornBridgeModel", "tape", "[B", true)
  | 9 => ("HornBridgeModel", "text", "[B", true)
  | 10 => ("HornBridgeModel", "taped", "I", false)
  | 11 => ("HornBridgeModel", "size", "I", false)
  | 12 => ("HornBridgeModel", "token", "I", false)
  | 13 => ("HornBridgeModel", "from", "I", false)
  | 14 => ("HornBridgeModel", "end", "I", false)
  | 15 => ("HornBridgeModel", "value", "I", false)
  | 16 => ("HornBridgeModel", "faultKind", "I", false)
  | 17 => ("HornBridgeModel", "faultPlace", "I", false)
  | 18 => ("HornBridgeModel", "faults", "I", false)
  | 19 => ("HornBridgeModel", "seen", "I", false)
  | 20 => ("HornBridgeModel", "told0", "I", false)
  | 21 => ("HornBridgeModel", "doing", "[I", true)
  | 22 => ("HornBridgeModel", "toDo", "I", false)
  | 23 => ("HornBridgeModel", "within", "I", false)
  | 24 => ("HornBridgeModel", "cases", "I", false)
  | 25 => ("HornBridgeModel", "asks", "I", false)
  | 26 => ("HornBridgeModel", "readOne", "[I", true)
  | 27 => ("HornBridgeModel", "readTwo", "[I", true)
  | 28 => ("HornBridgeModel", "readBeats", "[I", true)
  | 29 => ("HornBridgeModel", "readMany", "I", false)
  | 30 => ("HornBridgeModel", "latestMany", "I", false)
  | 31 => ("HornBridgeModel", "keptOne", "[I", true)
  | 32 => ("HornBridgeModel", "keptTwo", "[I", true)
  | 33 => ("HornBridgeModel", "keptBeats", "[I", true)
  | 34 => ("HornBridgeModel", "callHeard", "[J", true)
  | 35 => ("HornBridgeModel", "callName", "[J", true)
  | 36 => ("HornBridgeModel", "codeNames", "[J", true)
  | 37 => ("HornBridgeModel", "callSize", "[I", true)
  | 38 => ("HornBridgeModel", "row", "[I", true)
  | 39 => ("HornBridgeModel", "callMany", "I", false)
  | 40 => ("HornBridgeModel", "codeMany", "I", false)
  | 41 => ("HornBridgeModel", "comes", "[I", true)
  | 42 => ("HornBridgeModel", "shipOrder", "[I", true)
  | 43 => ("HornBridgeModel", "cartOrder", "[I", true)
  | 44 => ("HornBridgeModel", "ships", "I", false)
  | 45 => ("HornBridgeModel", "carts", "I", false)
  | 46 => ("HornBridgeModel", "cartless", "I", false)
  | 47 => ("HornBridgeModel", "left", "[I", true)
  | 48 => ("HornBridgeModel", "quickly", "I", false)
  | 49 => ("HornBridgeModel", "planWhat", "[I", true)
  | 50 => ("HornBridgeModel", "planMinute", "[I", true)
  | 51 => ("HornBridgeModel", "planWho", "[I", true)
  | 52 => ("HornBridgeModel", "toldWhat", "[I", true)
  | 53 => ("HornBridgeModel", "toldMinute", "[I", true)
  | 54 => ("HornBridgeModel", "toldWho", "[I", true)
  | 55 => ("HornBridgeModel", "planMany", "I", false)
  | 56 => ("HornBridgeModel", "toldMany", "I", false)
  | 57 => ("HornBridgeModel", "ends", "I", false)
  | 58 => ("HornBridgeModel", "drawn", "I", false)
  | 59 => ("HornBridgeModel", "minute", "I", false)
  | 60 => ("HornBridgeModel", "isOpen", "I", false)
  | 61 => ("HornBridgeModel", "turnsTill", "I", false)
  | 62 => ("HornBridgeModel", "passesTill", "I", false)
  | 63 => ("HornBridgeModel", "anew", "I", false)
  | 64 => ("HornBridgeModel", "nextS", "I", false)
  | 65 => ("HornBridgeModel", "nextC", "I", false)
  | 66 => ("HornBridgeModel", "ranWaits", "I", false)
  | 67 => ("HornBridgeModel", "ranStruck", "I", false)
  | 68 => ("HornBridgeModel", "ranTurns", "I", false)
  | 69 => ("HornBridgeModel", "ranOver", "I", false)
  | 70 => ("HornBridgeModel", "ranPassed", "I", false)
  | 71 => ("HornBridgeModel", "gone", "[Z", true)
  | 72 => ("HornBridgeModel", "answer", "[Z", true)
  | 73 => ("HornBridgeModel", "kept0", "[I", true)
  | 74 => ("HornBridgeModel", "isTold", "Z", false)
  | _ => ("HornBridgeModel", "marks", "I", false)
def tyX12 : Nat → FieldType := fun k => match k with
  | 0 => .array .int
  | 1 => .array .long
  | 2 => .int
  | 3 => .long
  | 4 => .long
  | 5 => .array .int
  | 6 => .array .int
  | 7 => .array .long
  | 8 => .array .byte
  | 9 => .array .byte
  | 10 => .int
  | 11 => .int
  | 12 => .int
  | 13 => .int
  | 14 => .int
  | 15 => .int
  | 16 => .int
  | 17 => .int
  | 18 => .int
  | 19 => .int
  | 20 => .int
  | 21 => .array .int
  | 22 => .int
  | 23 => .int
  | 24 => .int
  | 25 => .int
  | 26 => .array .int
  | 27 => .array .int
  | 28 => .array .int
  | 29 => .int
  | 30 => .int
  | 31 => .array .int
  | 32 => .array .int
  | 33 => .array .int
  | 34 => .array .long
  | 35 => .array .long
  | 36 => .array .long
  | 37 => .array .int
  | 38 => .array .int
  | 39 => .int
  | 40 => .int
  | 41 => .array .int
  | 42 => .array .int
  | 43 => .array .int
  | 44 => .int
  | 45 => .int
  | 46 => .int
  | 47 => .array .int
  | 48 => .int
  | 49 => .array .int
  | 50 => .array .int
  | 51 => .array .int
  | 52 => .array .int
  | 53 => .array .int
  | 54 => .array .int
  | 55 => .int
  | 56 => .int
  | 57 => .int
  | 58 => .int
  | 59 => .int
  | 60 => .int
  | 61 => .int
  | 62 => .int
  | 63 => .int
  | 64 => .int
  | 65 => .int
  | 66 => .int
  | 67 => .int
  | 68 => .int
  | 69 => .int
  | 70 => .int
  | 71 => .array .boolean
  | 72 => .array .boolean
  | 73 => .array .int
  | 74 => .boolean
  | _ => .int
abbrev wsX120 : List Cond := u_ws RX12 TX12 76
theorem nmX12 : ∀ a, a < 76 → ∀ b, b < 76 → a ≠ b → (TX12 a).2.1 ≠ (TX12 b).2.1 := by decide +kernel
theorem tyX12_ok : ∀ k, k < 76 → parseFieldDescriptor (TX12 k).2.2.1 = some (tyX12 k) := by decide +kernel
abbrev cX12_init : ByteArray := prog_14_method_1_code
def yX12_init : MethodName := ⟨RX12, "<init>", "()V"⟩
abbrev cX12_status : ByteArray := prog_14_method_2_code
def yX12_status : MethodName := ⟨RX12, "status", "()I"⟩
abbrev cX12_top : ByteArray := prog_14_method_3_code
def yX12_top : MethodName := ⟨RX12, "top", "()J"⟩
abbrev cX12_bottom : ByteArray := prog_14_method_4_code
def yX12_bottom : MethodName := ⟨RX12, "bottom", "()J"⟩
abbrev cX12_is : ByteArray := prog_14_method_5_code
def yX12_is : MethodName := ⟨RX12, "is", "(I)Z"⟩
abbrev cX12_refuse : ByteArray := prog_14_method_6_code
def yX12_refuse : MethodName := ⟨RX12, "refuse", "(I)I"⟩
abbrev cX12_gives : ByteArray := prog_14_method_7_code
def yX12_gives : MethodName := ⟨RX12, "gives", "(I)I"⟩
abbrev cX12_orNone : ByteArray := prog_14_method_8_code
def yX12_orNone : MethodName := ⟨RX12, "orNone", "(I)I"⟩
abbrev cX12_givesLong : ByteArray := prog_14_method_9_code
def yX12_givesLong : MethodName := ⟨RX12, "givesLong", "(J)J"⟩
abbrev cX12_tellsBy : ByteArray := prog_14_method_10_code
def yX12_tellsBy : MethodName := ⟨RX12, "tellsBy", "(JJ)Z"⟩
abbrev cX12_isTray : ByteArray := prog_14_method_11_code
def yX12_isTray : MethodName := ⟨RX12, "isTray", "(I)Z"⟩
abbrev cX12_cut : ByteArray := prog_14_method_12_code
def yX12_cut : MethodName := ⟨RX12, "cut", "(JI)J"⟩
abbrev cX12_tray : ByteArray := prog_14_method_13_code
def yX12_tray : MethodName := ⟨RX12, "tray", "(III)Z"⟩
abbrev cX12_wrongPlace : ByteArray := prog_14_method_14_code
def yX12_wrongPlace : MethodName := ⟨RX12, "wrongPlace", "(II)I"⟩
abbrev cX12_write : ByteArray := prog_14_method_15_code
def yX12_write : MethodName := ⟨RX12, "write", "(IIJ)Z"⟩
abbrev cX12_read : ByteArray := prog_14_method_16_code
def yX12_read : MethodName := ⟨RX12, "read", "(II)J"⟩
abbrev cX12_pour : ByteArray := prog_14_method_17_code
def yX12_pour : MethodName := ⟨RX12, "pour", "(IIIII)Z"⟩
abbrev cX12_isFrom : ByteArray := prog_14_method_18_code
def yX12_isFrom : MethodName := ⟨RX12, "isFrom", "(JJJ)Z"⟩
abbrev cX12_feed : ByteArray := prog_14_method_19_code
def yX12_feed : MethodName := ⟨RX12, "feed", "(IIIII)I"⟩
abbrev cX12_four : ByteArray := prog_14_method_20_code
def yX12_four : MethodName := ⟨RX12, "four", "(I)V"⟩
abbrev cX12_byteAt : ByteArray := prog_14_method_21_code
def yX12_byteAt : MethodName := ⟨RX12, "byteAt", "(I)I"⟩
abbrev cX12_isSmall : ByteArray := prog_14_method_22_code
def yX12_isSmall : MethodName := ⟨RX12, "isSmall", "(I)Z"⟩
abbrev cX12_isDigit : ByteArray := prog_14_method_23_code
def yX12_isDigit : MethodName := ⟨RX12, "isDigit", "(I)Z"⟩
abbrev cX12_ahead : ByteArray := prog_14_method_24_code
def yX12_ahead : MethodName := ⟨RX12, "ahead", "()V"⟩
abbrev cX12_isSign : ByteArray := prog_14_method_25_code
def yX12_isSign : MethodName := ⟨RX12, "isSign", "(I)Z"⟩
abbrev cX12_inWords : ByteArray := prog_14_method_26_code
def yX12_inWords : MethodName := ⟨RX12, "inWords", "(Ljava/lang/String;)I"⟩
abbrev cX12_fails : ByteArray := prog_14_method_27_code
def yX12_fails : MethodName := ⟨RX12, "fails", "(I)Z"⟩
abbrev cX12_begins : ByteArray := prog_14_method_28_code
def yX12_begins : MethodName := ⟨RX12, "begins", "(II)Z"⟩
abbrev cX12_wantSign : ByteArray := prog_14_method_29_code
def yX12_wantSign : MethodName := ⟨RX12, "wantSign", "(I)Z"⟩
abbrev cX12_wantWord : ByteArray := prog_14_method_30_code
def yX12_wantWord : MethodName := ⟨RX12, "wantWord", "(Ljava/lang/String;I)Z"⟩
abbrev cX12_number : ByteArray := prog_14_method_31_code
def yX12_number : MethodName := ⟨RX12, "number", "(III)Z"⟩
abbrev cX12_isName : ByteArray := prog_14_method_32_code
def yX12_isName : MethodName := ⟨RX12, "isName", "(Ljava/lang/String;)Z"⟩
abbrev cX12_nameHere : ByteArray := prog_14_method_33_code
def yX12_nameHere : MethodName := ⟨RX12, "nameHere", "()J"⟩
abbrev cX12_findHere : ByteArray := prog_14_method_34_code
def yX12_findHere : MethodName := ⟨RX12, "findHere", "(II)I"⟩
abbrev cX12_fault : ByteArray := prog_14_method_35_code
def yX12_fault : MethodName := ⟨RX12, "fault", "(I)I"⟩
abbrev cX12_taken : ByteArray := prog_14_method_36_code
def yX12_taken : MethodName := ⟨RX12, "taken", "(I)I"⟩
abbrev cX12_aNewName : ByteArray := prog_14_method_37_code
def yX12_aNewName : MethodName := ⟨RX12, "aNewName", "(I)Z"⟩
abbrev cX12_areBlasts : ByteArray := prog_14_method_38_code
def yX12_areBlasts : MethodName := ⟨RX12, "areBlasts", "()Z"⟩
abbrev cX12_aPort : ByteArray := prog_14_method_39_code
def yX12_aPort : MethodName := ⟨RX12, "aPort", "()Z"⟩
abbrev cX12_aShip : ByteArray := prog_14_method_40_code
def yX12_aShip : MethodName := ⟨RX12, "aShip", "()Z"⟩
abbrev cX12_passes : ByteArray := prog_14_method_41_code
def yX12_passes : MethodName := ⟨RX12, "passes", "(I)Z"⟩
abbrev cX12_aCart : ByteArray := prog_14_method_42_code
def yX12_aCart : MethodName := ⟨RX12, "aCart", "()Z"⟩
abbrev cX12_once : ByteArray := prog_14_method_43_code
def yX12_once : MethodName := ⟨RX12, "once", "(I)Z"⟩
abbrev cX12_riverPart : ByteArray := prog_14_method_44_code
def yX12_riverPart : MethodName := ⟨RX12, "riverPart", "()Z"⟩
abbrev cX12_river : ByteArray := prog_14_method_45_code
def yX12_river : MethodName := ⟨RX12, "river", "(I)I"⟩
abbrev cX12_asksAlso : ByteArray := prog_14_method_46_code
def yX12_asksAlso : MethodName := ⟨RX12, "asksAlso", "(I)V"⟩
abbrev cX12_isDoing : ByteArray := prog_14_method_47_code
def yX12_isDoing : MethodName := ⟨RX12, "isDoing", "(I)Z"⟩
abbrev cX12_does : ByteArray := prog_14_method_48_code
def yX12_does : MethodName := ⟨RX12, "does", "(I)V"⟩
abbrev cX12_joins : ByteArray := prog_14_method_49_code
def yX12_joins : MethodName := ⟨RX12, "joins", "()V"⟩
abbrev cX12_turnsRound : ByteArray := prog_14_method_50_code
def yX12_turnsRound : MethodName := ⟨RX12, "turnsRound", "()V"⟩
abbrev cX12_isWithin : ByteArray := prog_14_method_51_code
def yX12_isWithin : MethodName := ⟨RX12, "isWithin", "()Z"⟩
abbrev cX12_aCase : ByteArray := prog_14_method_52_code
def yX12_aCase : MethodName := ⟨RX12, "aCase", "(I)Z"⟩
abbrev cX12_aOne : ByteArray := prog_14_method_53_code
def yX12_aOne : MethodName := ⟨RX12, "aOne", "()Z"⟩
abbrev cX12_conditions : ByteArray := prog_14_method_54_code
def yX12_conditions : MethodName := ⟨RX12, "conditions", "()Z"⟩
abbrev cX12_aRule : ByteArray := prog_14_method_55_code
def yX12_aRule : MethodName := ⟨RX12, "aRule", "()Z"⟩
abbrev cX12_rules : ByteArray := prog_14_method_56_code
def yX12_rules : MethodName := ⟨RX12, "rules", "(I)I"⟩
abbrev cX12_isPort : ByteArray := prog_14_method_57_code
def yX12_isPort : MethodName := ⟨RX12, "isPort", "(I)Z"⟩
abbrev cX12_isShip : ByteArray := prog_14_method_58_code
def yX12_isShip : MethodName := ⟨RX12, "isShip", "(I)Z"⟩
abbrev cX12_isCart : ByteArray := prog_14_method_59_code
def yX12_isCart : MethodName := ⟨RX12, "isCart", "(I)Z"⟩
abbrev cX12_told : ByteArray := prog_14_method_60_code
def yX12_told : MethodName := ⟨RX12, "told", "(I)I"⟩
abbrev cX12_ship : ByteArray := prog_14_method_61_code
def yX12_ship : MethodName := ⟨RX12, "ship", "(II)I"⟩
abbrev cX12_cart : ByteArray := prog_14_method_62_code
def yX12_cart : MethodName := ⟨RX12, "cart", "(II)I"⟩
abbrev cX12_beatsOf : ByteArray := prog_14_method_63_code
def yX12_beatsOf : MethodName := ⟨RX12, "beatsOf", "(II)J"⟩
abbrev cX12_soundOf : ByteArray := prog_14_method_64_code
def yX12_soundOf : MethodName := ⟨RX12, "soundOf", "(I)J"⟩
abbrev cX12_echoed : ByteArray := prog_14_method_65_code
def yX12_echoed : MethodName := ⟨RX12, "echoed", "(JI)J"⟩
abbrev cX12_heardOf : ByteArray := prog_14_method_66_code
def yX12_heardOf : MethodName := ⟨RX12, "heardOf", "(I)J"⟩
abbrev cX12_bits : ByteArray := prog_14_method_67_code
def yX12_bits : MethodName := ⟨RX12, "bits", "(J)I"⟩
abbrev cX12_sound : ByteArray := prog_14_method_68_code
def yX12_sound : MethodName := ⟨RX12, "sound", "(I)J"⟩
abbrev cX12_heard : ByteArray := prog_14_method_69_code
def yX12_heard : MethodName := ⟨RX12, "heard", "(I)J"⟩
abbrev cX12_together : ByteArray := prog_14_method_70_code
def yX12_together : MethodName := ⟨RX12, "together", "(III)J"⟩
abbrev cX12_lasts : ByteArray := prog_14_method_71_code
def yX12_lasts : MethodName := ⟨RX12, "lasts", "(I)I"⟩
abbrev cX12_far : ByteArray := prog_14_method_72_code
def yX12_far : MethodName := ⟨RX12, "far", "(II)I"⟩
abbrev cX12_reads : ByteArray := prog_14_method_73_code
def yX12_reads : MethodName := ⟨RX12, "reads", "(III)V"⟩
abbrev cX12_findsReadings : ByteArray := prog_14_method_74_code
def yX12_findsReadings : MethodName := ⟨RX12, "findsReadings", "(J)V"⟩
abbrev cX12_readings : ByteArray := prog_14_method_75_code
def yX12_readings : MethodName := ⟨RX12, "readings", "(J)I"⟩
abbrev cX12_reading : ByteArray := prog_14_method_76_code
def yX12_reading : MethodName := ⟨RX12, "reading", "(II)I"⟩
abbrev cX12_doubt : ByteArray := prog_14_method_77_code
def yX12_doubt : MethodName := ⟨RX12, "doubt", "(JI)Z"⟩
abbrev cX12_alike : ByteArray := prog_14_method_78_code
def yX12_alike : MethodName := ⟨RX12, "alike", "()I"⟩
abbrev cX12_parts : ByteArray := prog_14_method_79_code
def yX12_parts : MethodName := ⟨RX12, "parts", "(J)I"⟩
abbrev cX12_clearBeats : ByteArray := prog_14_method_80_code
def yX12_clearBeats : MethodName := ⟨RX12, "clearBeats", "(II)I"⟩
abbrev cX12_alikeBy : ByteArray := prog_14_method_81_code
def yX12_alikeBy : MethodName := ⟨RX12, "alikeBy", "(I)I"⟩
abbrev cX12_clearEcho : ByteArray := prog_14_method_82_code
def yX12_clearEcho : MethodName := ⟨RX12, "clearEcho", "()I"⟩
abbrev cX12_silent : ByteArray := prog_14_method_83_code
def yX12_silent : MethodName := ⟨RX12, "silent", "()I"⟩
abbrev cX12_laysCalls : ByteArray := prog_14_method_84_code
def yX12_laysCalls : MethodName := ⟨RX12, "laysCalls", "(II)V"⟩
abbrev cX12_isCode : ByteArray := prog_14_method_85_code
def yX12_isCode : MethodName := ⟨RX12, "isCode", "(I)Z"⟩
abbrev cX12_code : ByteArray := prog_14_method_86_code
def yX12_code : MethodName := ⟨RX12, "code", "(III)I"⟩
abbrev cX12_codeAt : ByteArray := prog_14_method_87_code
def yX12_codeAt : MethodName := ⟨RX12, "codeAt", "(I)J"⟩
abbrev cX12_tellsMinutes : ByteArray := prog_14_method_88_code
def yX12_tellsMinutes : MethodName := ⟨RX12, "tellsMinutes", "()V"⟩
abbrev cX12_orders : ByteArray := prog_14_method_89_code
def yX12_orders : MethodName := ⟨RX12, "orders", "(I)V"⟩
abbrev cX12_nextShip : ByteArray := prog_14_method_90_code
def yX12_nextShip : MethodName := ⟨RX12, "nextShip", "(I)I"⟩
abbrev cX12_nextCart : ByteArray := prog_14_method_91_code
def yX12_nextCart : MethodName := ⟨RX12, "nextCart", "(I)I"⟩
abbrev cX12_ofShip : ByteArray := prog_14_method_92_code
def yX12_ofShip : MethodName := ⟨RX12, "ofShip", "(II)I"⟩
abbrev cX12_ofCart : ByteArray := prog_14_method_93_code
def yX12_ofCart : MethodName := ⟨RX12, "ofCart", "(II)I"⟩
abbrev cX12_turnTime : ByteArray := prog_14_method_94_code
def yX12_turnTime : MethodName := ⟨RX12, "turnTime", "(II)I"⟩
abbrev cX12_stateOf : ByteArray := prog_14_method_95_code
def yX12_stateOf : MethodName := ⟨RX12, "stateOf", "(IIII)I"⟩
abbrev cX12_leftAt : ByteArray := prog_14_method_96_code
def yX12_leftAt : MethodName := ⟨RX12, "leftAt", "(IIII)I"⟩
abbrev cX12_mayShip : ByteArray := prog_14_method_97_code
def yX12_mayShip : MethodName := ⟨RX12, "mayShip", "(III)Z"⟩
abbrev cX12_mayCart : ByteArray := prog_14_method_98_code
def yX12_mayCart : MethodName := ⟨RX12, "mayCart", "(III)Z"⟩
abbrev cX12_byShip : ByteArray := prog_14_method_99_code
def yX12_byShip : MethodName := ⟨RX12, "byShip", "(III)I"⟩
abbrev cX12_byCart : ByteArray := prog_14_method_100_code
def yX12_byCart : MethodName := ⟨RX12, "byCart", "(III)I"⟩
abbrev cX12_reckons : ByteArray := prog_14_method_101_code
def yX12_reckons : MethodName := ⟨RX12, "reckons", "()I"⟩
abbrev cX12_leastBy : ByteArray := prog_14_method_102_code
def yX12_leastBy : MethodName := ⟨RX12, "leastBy", "(II)I"⟩
abbrev cX12_least : ByteArray := prog_14_method_103_code
def yX12_least : MethodName := ⟨RX12, "least", "()I"⟩
abbrev cX12_acts : ByteArray := prog_14_method_104_code
def yX12_acts : MethodName := ⟨RX12, "acts", "(III)V"⟩
abbrev cX12_plans : ByteArray := prog_14_method_105_code
def yX12_plans : MethodName := ⟨RX12, "plans", "()Z"⟩
abbrev cX12_plan : ByteArray := prog_14_method_106_code
def yX12_plan : MethodName := ⟨RX12, "plan", "()I"⟩
abbrev cX12_planAt : ByteArray := prog_14_method_107_code
def yX12_planAt : MethodName := ⟨RX12, "planAt", "(II)I"⟩
abbrev cX12_worth : ByteArray := prog_14_method_108_code
def yX12_worth : MethodName := ⟨RX12, "worth", "(I)I"⟩
abbrev cX12_quicker : ByteArray := prog_14_method_109_code
def yX12_quicker : MethodName := ⟨RX12, "quicker", "(I)I"⟩
abbrev cX12_away : ByteArray := prog_14_method_110_code
def yX12_away : MethodName := ⟨RX12, "away", "()I"⟩
abbrev cX12_later : ByteArray := prog_14_method_111_code
def yX12_later : MethodName := ⟨RX12, "later", "(II)I"⟩
abbrev cX12_laterBy : ByteArray := prog_14_method_112_code
def yX12_laterBy : MethodName := ⟨RX12, "laterBy", "(II)I"⟩
abbrev cX12_slack : ByteArray := prog_14_method_113_code
def yX12_slack : MethodName := ⟨RX12, "slack", "(I)I"⟩
abbrev cX12_without : ByteArray := prog_14_method_114_code
def yX12_without : MethodName := ⟨RX12, "without", "(I)I"⟩
abbrev cX12_cameBy : ByteArray := prog_14_method_115_code
def yX12_cameBy : MethodName := ⟨RX12, "cameBy", "(I)I"⟩
abbrev cX12_costsBy : ByteArray := prog_14_method_116_code
def yX12_costsBy : MethodName := ⟨RX12, "costsBy", "(I)I"⟩
abbrev cX12_dearest : ByteArray := prog_14_method_117_code
def yX12_dearest : MethodName := ⟨RX12, "dearest", "()I"⟩
abbrev cX12_opened : ByteArray := prog_14_method_118_code
def yX12_opened : MethodName := ⟨RX12, "opened", "()I"⟩
abbrev cX12_busiest : ByteArray := prog_14_method_119_code
def yX12_busiest : MethodName := ⟨RX12, "busiest", "()I"⟩
abbrev cX12_draw : ByteArray := prog_14_method_120_code
def yX12_draw : MethodName := ⟨RX12, "draw", "()I"⟩
abbrev cX12_waitingShips : ByteArray := prog_14_method_121_code
def yX12_waitingShips : MethodName := ⟨RX12, "waitingShips", "()I"⟩
abbrev cX12_waitingCarts : ByteArray := prog_14_method_122_code
def yX12_waitingCarts : MethodName := ⟨RX12, "waitingCarts", "()I"⟩
abbrev cX12_nextIn : ByteArray := prog_14_method_123_code
def yX12_nextIn : MethodName := ⟨RX12, "nextIn", "()I"⟩
abbrev cX12_asked : ByteArray := prog_14_method_124_code
def yX12_asked : MethodName := ⟨RX12, "asked", "(I)Z"⟩
abbrev cX12_holds : ByteArray := prog_14_method_125_code
def yX12_holds : MethodName := ⟨RX12, "holds", "(I)Z"⟩
abbrev cX12_actNow : ByteArray := prog_14_method_126_code
def yX12_actNow : MethodName := ⟨RX12, "actNow", "()I"⟩
abbrev cX12_passesOver : ByteArray := prog_14_method_127_code
def yX12_passesOver : MethodName := ⟨RX12, "passesOver", "()V"⟩
abbrev cX12_isBusy : ByteArray := prog_14_method_128_code
def yX12_isBusy : MethodName := ⟨RX12, "isBusy", "()Z"⟩
abbrev cX12_strikes : ByteArray := prog_14_method_129_code
def yX12_strikes : MethodName := ⟨RX12, "strikes", "()V"⟩
abbrev cX12_minuteGoes : ByteArray := prog_14_method_130_code
def yX12_minuteGoes : MethodName := ⟨RX12, "minuteGoes", "()V"⟩
abbrev cX12_leftOver : ByteArray := prog_14_method_131_code
def yX12_leftOver : MethodName := ⟨RX12, "leftOver", "()I"⟩
abbrev cX12_keeps : ByteArray := prog_14_method_132_code
def yX12_keeps : MethodName := ⟨RX12, "keeps", "(I)V"⟩
abbrev cX12_keep : ByteArray := prog_14_method_133_code
def yX12_keep : MethodName := ⟨RX12, "keep", "(I)I"⟩
abbrev cX12_kept : ByteArray := prog_14_method_134_code
def yX12_kept : MethodName := ⟨RX12, "kept", "(I)I"⟩
abbrev cX12_areSeeds : ByteArray := prog_14_method_135_code
def yX12_areSeeds : MethodName := ⟨RX12, "areSeeds", "(II)Z"⟩
abbrev cX12_odds : ByteArray := prog_14_method_136_code
def yX12_odds : MethodName := ⟨RX12, "odds", "(II)Z"⟩
abbrev cX12_waits : ByteArray := prog_14_method_137_code
def yX12_waits : MethodName := ⟨RX12, "waits", "(II)I"⟩
abbrev cX12_copies : ByteArray := prog_14_method_138_code
def yX12_copies : MethodName := ⟨RX12, "copies", "(II)V"⟩
abbrev cX12_mark : ByteArray := prog_14_method_139_code
def yX12_mark : MethodName := ⟨RX12, "mark", "()I"⟩
abbrev cX12_back : ByteArray := prog_14_method_140_code
def yX12_back : MethodName := ⟨RX12, "back", "()I"⟩
def RJx29ce0 : String := "java/lang/Enum"
def TJx29ce0 : u_T := fun k => match k with
  | _ => ("", "", "", false)
def tyJx29ce0 : Nat → FieldType := fun k => match k with
  | _ => .int
abbrev wsJx29ce00 : List Cond := u_ws RJx29ce0 TJx29ce0 0
theorem nmJx29ce0 : ∀ a, a < 0 → ∀ b, b < 0 → a ≠ b → (TJx29ce0 a).2.1 ≠ (TJx29ce0 b).2.1 := by decide +kernel
theorem tyJx29ce0_ok : ∀ k, k < 0 → parseFieldDescriptor (TJx29ce0 k).2.2.1 = some (tyJx29ce0 k) := by decide +kernel
def RJ6 : String := "java/lang/Integer"
def TJ6 : u_T := fun k => match k with
  | _ => ("", "", "", false)
def tyJ6 : Nat → FieldType := fun k => match k with
  | _ => .int
abbrev wsJ60 : List Cond := u_ws RJ6 TJ6 0
theorem nmJ6 : ∀ a, a < 0 → ∀ b, b < 0 → a ≠ b → (TJ6 a).2.1 ≠ (TJ6 b).2.1 := by decide +kernel
theorem tyJ6_ok : ∀ k, k < 0 → parseFieldDescriptor (TJ6 k).2.2.1 = some (tyJ6 k) := by decide +kernel
abbrev cJ6_numberOfLeadingZeros_0f7a4 : ByteArray := prog_16_method_47_code
def yJ6_numberOfLeadingZeros_0f7a4 : MethodName := ⟨RJ6, "numberOfLeadingZeros", "(I)I"⟩
abbrev cJ6_numberOfTrailingZeros_0f7a4 : ByteArray := prog_16_method_48_code
def yJ6_numberOfTrailingZeros_0f7a4 : MethodName := ⟨RJ6, "numberOfTrailingZeros", "(I)I"⟩
abbrev cJ6_bitCount_0f7a4 : ByteArray := prog_16_method_49_code
def yJ6_bitCount_0f7a4 : MethodName := ⟨RJ6, "bitCount", "(I)I"⟩
def RJ13 : String := "java/lang/Long"
def TJ13 : u_T := fun k => match k with
  | _ => ("", "", "", false)
def tyJ13 : Nat → FieldType := fun k => match k with
  | _ => .int
abbrev wsJ130 : List Cond := u_ws RJ13 TJ13 0
theorem nmJ13 : ∀ a, a < 0 → ∀ b, b < 0 → a ≠ b → (TJ13 a).2.1 ≠ (TJ13 b).2.1 := by decide +kernel
theorem tyJ13_ok : ∀ k, k < 0 → parseFieldDescriptor (TJ13 k).2.2.1 = some (tyJ13 k) := by decide +kernel
abbrev cJ13_numberOfLeadingZeros_95d88 : ByteArray := prog_17_method_48_code
def yJ13_numberOfLeadingZeros_95d88 : MethodName := ⟨RJ13, "numberOfLeadingZeros", "(J)I"⟩
abbrev cJ13_numberOfTrailingZeros_95d88 : ByteArray := prog_17_method_49_code
def yJ13_numberOfTrailingZeros_95d88 : MethodName := ⟨RJ13, "numberOfTrailingZeros", "(J)I"⟩
abbrev cJ13_bitCount_95d88 : ByteArray := prog_17_method_50_code
def yJ13_bitCount_95d88 : MethodName := ⟨RJ13, "bitCount", "(J)I"⟩
def RJ9 : String := "java/lang/Math"
def TJ9 : u_T := fun k => match k with
  | _ => ("", "", "", false)
def tyJ9 : Nat → FieldType := fun k => match k with
  | _ => .int
abbrev wsJ90 : List Cond := u_ws RJ9 TJ9 0
theorem nmJ9 : ∀ a, a < 0 → ∀ b, b < 0 → a ≠ b → (TJ9 a).2.1 ≠ (TJ9 b).2.1 := by decide +kernel
theorem tyJ9_ok : ∀ k, k < 0 → parseFieldDescriptor (TJ9 k).2.2.1 = some (tyJ9 k) := by decide +kernel
abbrev cJ9_max_7cf53 : ByteArray := prog_18_method_65_code
def yJ9_max_7cf53 : MethodName := ⟨RJ9, "max", "(II)I"⟩
abbrev cJ9_min_7cf53 : ByteArray := prog_18_method_69_code
def yJ9_min_7cf53 : MethodName := ⟨RJ9, "min", "(II)I"⟩
def RJ0 : String := "java/lang/String"
def TJ0 : u_T := fun k => match k with
  | _ => ("", "", "", false)
def tyJ0 : Nat → FieldType := fun k => match k with
  | _ => .int
abbrev wsJ00 : List Cond := u_ws RJ0 TJ0 0
theorem nmJ0 : ∀ a, a < 0 → ∀ b, b < 0 → a ≠ b → (TJ0 a).2.1 ≠ (TJ0 b).2.1 := by decide +kernel
theorem tyJ0_ok : ∀ k, k < 0 → parseFieldDescriptor (TJ0 k).2.2.1 = some (tyJ0 k) := by decide +kernel
abbrev cJ0_length_8abf5 : ByteArray := prog_19_method_54_code
def yJ0_length_8abf5 : MethodName := ⟨RJ0, "length", "()I"⟩
abbrev cJ0_charAt_5068e : ByteArray := prog_19_method_56_code
def yJ0_charAt_5068e : MethodName := ⟨RJ0, "charAt", "(I)C"⟩
abbrev cJ0_coder_7d493 : ByteArray := prog_19_method_152_code
def yJ0_coder_7d493 : MethodName := ⟨RJ0, "coder", "()B"⟩
abbrev cJ0_isLatin1_aae02 : ByteArray := prog_19_method_154_code
def yJ0_isLatin1_aae02 : MethodName := ⟨RJ0, "isLatin1", "()Z"⟩
abbrev cJ0_checkIndex_df160 : ByteArray := prog_19_method_155_code
def yJ0_checkIndex_df160 : MethodName := ⟨RJ0, "checkIndex", "(II)V"⟩
def RJ1 : String := "java/lang/StringLatin1"
def TJ1 : u_T := fun k => match k with
  | _ => ("", "", "", false)
def tyJ1 : Nat → FieldType := fun k => match k with
  | _ => .int
abbrev wsJ10 : List Cond := u_ws RJ1 TJ1 0
theorem nmJ1 : ∀ a, a < 0 → ∀ b, b < 0 → a ≠ b → (TJ1 a).2.1 ≠ (TJ1 b).2.1 := by decide +kernel
theorem tyJ1_ok : ∀ k, k < 0 → parseFieldDescriptor (TJ1 k).2.2.1 = some (tyJ1 k) := by decide +kernel
abbrev cJ1_charAt_3b067 : ByteArray := prog_20_method_2_code
def yJ1_charAt_3b067 : MethodName := ⟨RJ1, "charAt", "([BI)C"⟩
def RJ2 : String := "java/lang/StringUTF16"
def TJ2 : u_T := fun k => match k with
  | _ => ("", "", "", false)
def tyJ2 : Nat → FieldType := fun k => match k with
  | _ => .int
abbrev wsJ20 : List Cond := u_ws RJ2 TJ2 0
theorem nmJ2 : ∀ a, a < 0 → ∀ b, b < 0 → a ≠ b → (TJ2 a).2.1 ≠ (TJ2 b).2.1 := by decide +kernel
theorem tyJ2_ok : ∀ k, k < 0 → parseFieldDescriptor (TJ2 k).2.2.1 = some (tyJ2 k) := by decide +kernel
abbrev cJ2_getChar_3b067 : ByteArray := prog_21_method_5_code
def yJ2_getChar_3b067 : MethodName := ⟨RJ2, "getChar", "([BI)C"⟩
abbrev cJ2_length_9d52b : ByteArray := prog_21_method_6_code
def yJ2_length_9d52b : MethodName := ⟨RJ2, "length", "([B)I"⟩
abbrev cJ2_charAt_3b067 : ByteArray := prog_21_method_83_code
def yJ2_charAt_3b067 : MethodName := ⟨RJ2, "charAt", "([BI)C"⟩
abbrev cJ2_checkIndex_2214a : ByteArray := prog_21_method_91_code
def yJ2_checkIndex_2214a : MethodName := ⟨RJ2, "checkIndex", "(I[B)V"⟩
def RJ10 : String := "java/lang/System"
def TJ10 : u_T := fun k => match k with
  | _ => ("", "", "", false)
def tyJ10 : Nat → FieldType := fun k => match k with
  | _ => .int
abbrev wsJ100 : List Cond := u_ws RJ10 TJ10 0
theorem nmJ10 : ∀ a, a < 0 → ∀ b, b < 0 → a ≠ b → (TJ10 a).2.1 ≠ (TJ10 b).2.1 := by decide +kernel
theorem tyJ10_ok : ∀ k, k < 0 → parseFieldDescriptor (TJ10 k).2.2.1 = some (tyJ10 k) := by decide +kernel
def RJ3 : String := "jdk/internal/util/Preconditions"
def TJ3 : u_T := fun k => match k with
  | _ => ("", "", "", false)
def tyJ3 : Nat → FieldType := fun k => match k with
  | _ => .int
abbrev wsJ30 : List Cond := u_ws RJ3 TJ3 0
theorem nmJ3 : ∀ a, a < 0 → ∀ b, b < 0 → a ≠ b → (TJ3 a).2.1 ≠ (TJ3 b).2.1 := by decide +kernel
theorem tyJ3_ok : ∀ k, k < 0 → parseFieldDescriptor (TJ3 k).2.2.1 = some (tyJ3 k) := by decide +kernel
abbrev cJ3_checkIndex_8e157 : ByteArray := prog_23_method_11_code
def yJ3_checkIndex_8e157 : MethodName := ⟨RJ3, "checkIndex", "(IILjava/util/function/BiFunction;)I"⟩
def RL : String := "HornBridgeLaw"
abbrev cL_law : ByteArray := code
def yL_law : MethodName := ⟨RL, "law", "([I)Z"⟩
abbrev vwCl : List vw_C := [(RX0, TX0, 7), (RX1, TX1, 12), (RX2, TX2, 17), (RX4, TX4, 6), (RX5, TX5, 10), (RX6, TX6, 8), (RX7, TX7, 7), (RX8, TX8, 3), (RX9, TX9, 12), (RX10, TX10, 3), (RX11, TX11, 18), (RX12, TX12, 76)]
/-- the types of the fields of a class, in the order of the slots -/
def x_fty : Nat → List FieldType
  | 0 => [.array .long, .array .int, .array .long, .int, .array .int, .array .int, .int]
  | 1 => [.object "HornBridge$River", .int, .object "HornBridge$Lane", .object "HornBridge$Lane", .int, .int, .int, .array .int, .int, .array .int, .array .int, .array .int]
  | 2 => [.object "HornBridge$Lane", .object "HornBridge$Lane", .array .int, .array .int, .int, .int, .boolean, .int, .int, .int, .int, .int, .int, .int, .int, .boolean, .array .int]
  | 3 => [.int, .array .int, .array .int, .array .int, .array .int, .array .boolean]
  | 4 => [.int, .array .long, .array .long, .int, .int, .int, .int, .object "HornBridge$Lane", .array .int, .object "HornBridge$Lane"]
  | 5 => [.object "HornBridge$Tokens", .object "HornBridge$River", .array .long, .array .long, .int, .boolean, .boolean, .boolean]
  | 6 => [.int, .array .int, .array .int, .int, .array .int, .array .int, .array .int]
  | 7 => [.object "HornBridge$Tokens", .object "HornBridge$Rules", .int]
  | 8 => [.array .byte, .int, .int, .int, .int, .int, .long, .object "HornBridge$Keyword", .int, .int, .int, .int]
  | 9 => [.array .long, .int, .int]
  | 10 => [.int, .long, .long, .array (.object "HornBridge$Tray"), .array .byte, .int, .object "HornBridge$River", .object "HornBridge$Rules", .int, .int, .array (.object "HornBridge$River"), .array (.object "HornBridge$Rules"), .int, .array .int, .int, .object "HornBridge$CodeSearch", .object "HornBridge$Crossing", .object "HornBridge$Keeper"]
  | 11 => [.array .int, .array .long, .int, .long, .long, .array .int, .array .int, .array .long, .array .byte, .array .byte, .int, .int, .int, .int, .int, .int, .int, .int, .int, .int, .int, .array .int, .int, .int, .int, .int, .array .int, .array .int, .array .int, .int, .int, .array .int, .array .int, .array .int, .array .long, .array .long, .array .long, .array .int, .array .int, .int, .int, .array .int, .array .int, .array .int, .int, .int, .int, .array .int, .int, .array .int, .array .int, .array .int, .array .int, .array .int, .array .int, .int, .int, .int, .int, .int, .int, .int, .int, .int, .int, .int, .int, .int, .int, .int, .int, .array .boolean, .array .boolean, .array .int, .boolean, .int]
  | _ => []
/-! ===== END printed names ===== -/
end
section
/-! ===== printed by gen.py: the tables of the shadow machine ===== -/
abbrev x_Row : Type := Instr × Nat × Nat × Nat × Nat × Int
def x_t_X0_init : List (Nat × x_Row) := [(0, .aload_n 0, 1, 0, 0, 0, 0), (1, .invokespecial 3, 3, 1000, 0, 335, 0), (4, .aload_n 0, 1, 0, 0, 0, 0), (5, .bipush 30, 2, 0, 0, 0, 0), (7, .newarray .long, 2, 0, 0, 0, 0), (9, .putfield 11, 3, 0, 0, 340, 0), (12, .aload_n 0, 1, 0, 0, 0, 0), (13, .bipush 30, 2, 0, 0, 0, 0), (15, .newarray .int, 2, 0, 0, 0, 0), (17, .putfield 15, 3, 0, 1, 341, 0), (20, .aload_n 0, 1, 0, 0, 0, 0), (21, .bipush 30, 2, 0, 0, 0, 0), (23, .newarray .long, 2, 0, 0, 0, 0), (25, .putfield 19, 3, 0, 2, 342, 0), (28, .aload_n 0, 1, 0, 0, 0, 0), (29, .iconst 0, 1, 0, 0, 0, 0), (30, .putfield 22, 3, 0, 3, 343, 0), (33, .aload_n 0, 1, 0, 0, 0, 0), (34, .iconst 4, 1, 0, 0, 0, 0), (35, .newarray .int, 2, 0, 0, 0, 0), (37, .putfield 26, 3, 0, 4, 344, 0), (40, .aload_n 0, 1, 0, 0, 0, 0), (41, .iconst 4, 1, 0, 0, 0, 0), (42, .newarray .int, 2, 0, 0, 0, 0), (44, .putfield 29, 3, 0, 5, 345, 0), (47, .aload_n 0, 1, 0, 0, 0, 0), (48, .iconst 0, 1, 0, 0, 0, 0), (49, .putfield 32, 3, 0, 6, 346, 0), (52, .iconst 1, 1, 0, 0, 0, 0), (53, .istore_n 1, 1, 0, 0, 0, 0), (54, .iload_n 1, 1, 0, 0, 0, 0), (55, .iconst 4, 1, 0, 0, 0, 0), (56, .if_icmp .gt 67, 3, 123, 0, 0, 0), (59, .iconst 0, 1, 0, 0, 0, 0), (60, .istore_n 2, 1, 0, 0, 0, 0), (61, .iload_n 2, 1, 0, 0, 0, 0), (62, .iconst 1, 1, 0, 0, 0, 0), (63, .iload_n 1, 1, 0, 0, 0, 0), (64, .ishl, 1, 0, 0, 0, 0), (65, .if_icmp .ge 52, 3, 117, 0, 0, 0), (68, .aload_n 0, 1, 0, 0, 0, 0), (69, .getfield 22, 3, 0, 3, 343, 0), (72, .bipush 30, 2, 0, 0, 0, 0), (74, .if_icmp .ge 43, 3, 117, 0, 0, 0), (77, .aload_n 0, 1, 0, 0, 0, 0), (78, .getfield 11, 3, 0, 0, 340, 0), (81, .aload_n 0, 1, 0, 0, 0, 0), (82, .getfield 22, 3, 0, 3, 343, 0), (85, .iload_n 1, 1, 0, 0, 0, 0), (86, .iload_n 2, 1, 0, 0, 0, 0), (87, .invokestatic 35, 3, 1, 2, 336, 0), (90, .lastore, 1, 0, 0, 0, 0), (91, .aload_n 0, 1, 0, 0, 0, 0), (92, .getfield 15, 3, 0, 1, 341, 0), (95, .aload_n 0, 1, 0, 0, 0, 0), (96, .getfield 22, 3, 0, 3, 343, 0), (99, .iload_n 1, 1, 0, 0, 0, 0), (100, .iastore, 1, 0, 0, 0, 0), (101, .aload_n 0, 1, 0, 0, 0, 0), (102, .dup, 1, 0, 0, 0, 0), (103, .getfield 22, 3, 0, 3, 343, 0), (106, .iconst 1, 1, 0, 0, 0, 0), (107, .iadd, 1, 0, 0, 0, 0), (108, .putfield 22, 3, 0, 3, 343, 0), (111, .iinc 2 1, 3, 0, 0, 0, 0), (114, .goto (-53), 3, 61, 0, 0, 0), (117, .iinc 1 1, 3, 0, 0, 0, 0), (120, .goto (-66), 3, 54, 0, 0, 0), (123, .return_, 1, 0, 0, 0, 0)]
def x_t_X0_lettersOf : List (Nat × x_Row) := [(0, .lconst 0, 1, 0, 0, 0, 0), (1, .lstore_n 2, 1, 0, 0, 0, 0), (2, .iload_n 0, 1, 0, 0, 0, 0), (3, .iconst 1, 1, 0, 0, 0, 0), (4, .isub, 1, 0, 0, 0, 0), (5, .istore 4, 2, 0, 0, 0, 0), (7, .iload 4, 2, 0, 0, 0, 0), (9, .ifCond .lt 33, 3, 42, 0, 0, 0), (12, .lload_n 2, 1, 0, 0, 0, 0), (13, .ldc2_w 39, 3, 0, 0, 339, 32), (16, .lmul, 1, 0, 0, 0, 0), (17, .iload_n 1, 1, 0, 0, 0, 0), (18, .iload 4, 2, 0, 0, 0, 0), (20, .ishr, 1, 0, 0, 0, 0), (21, .iconst 1, 1, 0, 0, 0, 0), (22, .iand, 1, 0, 0, 0, 0), (23, .ifCond .ne 8, 3, 31, 0, 0, 0), (26, .bipush 12, 2, 0, 0, 0, 0), (28, .goto 5, 3, 33, 0, 0, 0), (31, .bipush 19, 2, 0, 0, 0, 0), (33, .i2l, 1, 0, 0, 0, 0), (34, .ladd, 1, 0, 0, 0, 0), (35, .lstore_n 2, 1, 0, 0, 0, 0), (36, .iinc 4 (-1), 3, 0, 0, 0, 0), (39, .goto (-32), 3, 7, 0, 0, 0), (42, .lload_n 2, 1, 0, 0, 0, 0), (43, .lreturn, 1, 0, 0, 0, 0)]
def x_t_X0_find : List (Nat × x_Row) := [(0, .iconst 0, 1, 0, 0, 0, 0), (1, .istore 4, 2, 0, 0, 0, 0), (3, .iconst 0, 1, 0, 0, 0, 0), (4, .istore 5, 2, 0, 0, 0, 0), (6, .iload 5, 2, 0, 0, 0, 0), (8, .aload_n 0, 1, 0, 0, 0, 0), (9, .getfield 22, 3, 0, 3, 343, 0), (12, .if_icmp .ge 47, 3, 59, 0, 0, 0), (15, .aload_n 0, 1, 0, 0, 0, 0), (16, .getfield 19, 3, 0, 2, 342, 0), (19, .iload 5, 2, 0, 0, 0, 0), (21, .aload_n 0, 1, 0, 0, 0, 0), (22, .getfield 11, 3, 0, 0, 340, 0), (25, .iload 5, 2, 0, 0, 0, 0), (27, .laload, 1, 0, 0, 0, 0), (28, .invokestatic 43, 3, 50, 1, 1140, 0), (31, .iload_n 3, 1, 0, 0, 0, 0), (32, .invokestatic 47, 3, 51, 2, 1141, 0), (35, .lastore, 1, 0, 0, 0, 0), (36, .aload_n 0, 1, 0, 0, 0, 0), (37, .getfield 15, 3, 0, 1, 341, 0), (40, .iload 5, 2, 0, 0, 0, 0), (42, .iaload, 1, 0, 0, 0, 0), (43, .iload_n 2, 1, 0, 0, 0, 0), (44, .if_icmp .gt 9, 3, 53, 0, 0, 0), (47, .iload 5, 2, 0, 0, 0, 0), (49, .iconst 1, 1, 0, 0, 0, 0), (50, .iadd, 1, 0, 0, 0, 0), (51, .istore 4, 2, 0, 0, 0, 0), (53, .iinc 5 1, 3, 0, 0, 0, 0), (56, .goto (-50), 3, 6, 0, 0, 0), (59, .iload_n 1, 1, 0, 0, 0, 0), (60, .aload_n 0, 1, 0, 0, 0, 0), (61, .getfield 26, 3, 0, 4, 344, 0), (64, .arraylength, 1, 0, 0, 0, 0), (65, .if_icmp .gt 15, 3, 80, 0, 0, 0), (68, .aload_n 0, 1, 0, 0, 0, 0), (69, .iconst 0, 1, 0, 0, 0, 0), (70, .iload_n 1, 1, 0, 0, 0, 0), (71, .iconst 0, 1, 0, 0, 0, 0), (72, .iload 4, 2, 0, 0, 0, 0), (74, .invokevirtual 51, 3, 3, 5, 1142, 0), (77, .ifCond .ne 5, 3, 82, 0, 0, 0), (80, .iconst 0, 1, 0, 0, 0, 0), (81, .ireturn, 1, 0, 0, 0, 0), (82, .aload_n 0, 1, 0, 0, 0, 0), (83, .getfield 26, 3, 0, 4, 344, 0), (86, .iconst 0, 1, 0, 0, 0, 0), (87, .aload_n 0, 1, 0, 0, 0, 0), (88, .getfield 29, 3, 0, 5, 345, 0), (91, .iconst 0, 1, 0, 0, 0, 0), (92, .iload_n 1, 1, 0, 0, 0, 0), (93, .invokestatic 55, 3, 1001, 0, 1154, 0), (96, .aload_n 0, 1, 0, 0, 0, 0), (97, .iload_n 1, 1, 0, 0, 0, 0), (98, .putfield 32, 3, 0, 6, 346, 0), (101, .iconst 1, 1, 0, 0, 0, 0), (102, .ireturn, 1, 0, 0, 0, 0)]
def x_t_X0_extend : List (Nat × x_Row) := [(0, .iload_n 1, 1, 0, 0, 0, 0), (1, .iload_n 2, 1, 0, 0, 0, 0), (2, .if_icmp .lt 5, 3, 7, 0, 0, 0), (5, .iconst 1, 1, 0, 0, 0, 0), (6, .ireturn, 1, 0, 0, 0, 0), (7, .iload_n 3, 1, 0, 0, 0, 0), (8, .istore 5, 2, 0, 0, 0, 0), (10, .iload 5, 2, 0, 0, 0, 0), (12, .iload 4, 2, 0, 0, 0, 0), (14, .if_icmp .ge 53, 3, 67, 0, 0, 0), (17, .iload_n 1, 1, 0, 0, 0, 0), (18, .aload_n 0, 1, 0, 0, 0, 0), (19, .getfield 26, 3, 0, 4, 344, 0), (22, .arraylength, 1, 0, 0, 0, 0), (23, .if_icmp .ge 44, 3, 67, 0, 0, 0), (26, .aload_n 0, 1, 0, 0, 0, 0), (27, .getfield 26, 3, 0, 4, 344, 0), (30, .iload_n 1, 1, 0, 0, 0, 0), (31, .iload 5, 2, 0, 0, 0, 0), (33, .iastore, 1, 0, 0, 0, 0), (34, .aload_n 0, 1, 0, 0, 0, 0), (35, .iload_n 1, 1, 0, 0, 0, 0), (36, .invokevirtual 61, 3, 4, 2, 1146, 0), (39, .ifCond .eq 22, 3, 61, 0, 0, 0), (42, .aload_n 0, 1, 0, 0, 0, 0), (43, .iload_n 1, 1, 0, 0, 0, 0), (44, .iconst 1, 1, 0, 0, 0, 0), (45, .iadd, 1, 0, 0, 0, 0), (46, .iload_n 2, 1, 0, 0, 0, 0), (47, .iload 5, 2, 0, 0, 0, 0), (49, .iconst 1, 1, 0, 0, 0, 0), (50, .iadd, 1, 0, 0, 0, 0), (51, .iload 4, 2, 0, 0, 0, 0), (53, .invokevirtual 51, 3, 3, 5, 1142, 0), (56, .ifCond .eq 5, 3, 61, 0, 0, 0), (59, .iconst 1, 1, 0, 0, 0, 0), (60, .ireturn, 1, 0, 0, 0, 0), (61, .iinc 5 1, 3, 0, 0, 0, 0), (64, .goto (-54), 3, 10, 0, 0, 0), (67, .iconst 0, 1, 0, 0, 0, 0), (68, .ireturn, 1, 0, 0, 0, 0)]
def x_t_X0_fitsLast : List (Nat × x_Row) := [(0, .iconst 0, 1, 0, 0, 0, 0), (1, .istore_n 2, 1, 0, 0, 0, 0), (2, .iload_n 2, 1, 0, 0, 0, 0), (3, .iload_n 1, 1, 0, 0, 0, 0), (4, .if_icmp .ge 109, 3, 113, 0, 0, 0), (7, .aload_n 0, 1, 0, 0, 0, 0), (8, .iload_n 2, 1, 0, 0, 0, 0), (9, .invokevirtual 65, 3, 5, 2, 1150, 0), (12, .aload_n 0, 1, 0, 0, 0, 0), (13, .iload_n 1, 1, 0, 0, 0, 0), (14, .invokevirtual 65, 3, 5, 2, 1150, 0), (17, .lcmp, 1, 0, 0, 0, 0), (18, .ifCond .ne 5, 3, 23, 0, 0, 0), (21, .iconst 0, 1, 0, 0, 0, 0), (22, .ireturn, 1, 0, 0, 0, 0), (23, .iconst 0, 1, 0, 0, 0, 0), (24, .istore_n 3, 1, 0, 0, 0, 0), (25, .iload_n 3, 1, 0, 0, 0, 0), (26, .iload_n 1, 1, 0, 0, 0, 0), (27, .if_icmp .ge 80, 3, 107, 0, 0, 0), (30, .aload_n 0, 1, 0, 0, 0, 0), (31, .iload_n 2, 1, 0, 0, 0, 0), (32, .invokevirtual 65, 3, 5, 2, 1150, 0), (35, .aload_n 0, 1, 0, 0, 0, 0), (36, .iload_n 3, 1, 0, 0, 0, 0), (37, .invokevirtual 65, 3, 5, 2, 1150, 0), (40, .lor, 1, 0, 0, 0, 0), (41, .aload_n 0, 1, 0, 0, 0, 0), (42, .iload_n 1, 1, 0, 0, 0, 0), (43, .invokevirtual 65, 3, 5, 2, 1150, 0), (46, .lcmp, 1, 0, 0, 0, 0), (47, .ifCond .ne 7, 3, 54, 0, 0, 0), (50, .iconst 1, 1, 0, 0, 0, 0), (51, .goto 4, 3, 55, 0, 0, 0), (54, .iconst 0, 1, 0, 0, 0, 0), (55, .istore 4, 2, 0, 0, 0, 0), (57, .aload_n 0, 1, 0, 0, 0, 0), (58, .iload_n 2, 1, 0, 0, 0, 0), (59, .invokevirtual 65, 3, 5, 2, 1150, 0), (62, .aload_n 0, 1, 0, 0, 0, 0), (63, .iload_n 1, 1, 0, 0, 0, 0), (64, .invokevirtual 65, 3, 5, 2, 1150, 0), (67, .lor, 1, 0, 0, 0, 0), (68, .aload_n 0, 1, 0, 0, 0, 0), (69, .iload_n 3, 1, 0, 0, 0, 0), (70, .invokevirtual 65, 3, 5, 2, 1150, 0), (73, .lcmp, 1, 0, 0, 0, 0), (74, .ifCond .ne 7, 3, 81, 0, 0, 0), (77, .iconst 1, 1, 0, 0, 0, 0), (78, .goto 4, 3, 82, 0, 0, 0), (81, .iconst 0, 1, 0, 0, 0, 0), (82, .istore 5, 2, 0, 0, 0, 0), (84, .iload_n 2, 1, 0, 0, 0, 0), (85, .iload_n 3, 1, 0, 0, 0, 0), (86, .if_icmp .eq 15, 3, 101, 0, 0, 0), (89, .iload 4, 2, 0, 0, 0, 0), (91, .ifCond .ne 8, 3, 99, 0, 0, 0), (94, .iload 5, 2, 0, 0, 0, 0), (96, .ifCond .eq 5, 3, 101, 0, 0, 0), (99, .iconst 0, 1, 0, 0, 0, 0), (100, .ireturn, 1, 0, 0, 0, 0), (101, .iinc 3 1, 3, 0, 0, 0, 0), (104, .goto (-79), 3, 25, 0, 0, 0), (107, .iinc 2 1, 3, 0, 0, 0, 0), (110, .goto (-108), 3, 2, 0, 0, 0), (113, .iconst 1, 1, 0, 0, 0, 0), (114, .ireturn, 1, 0, 0, 0, 0)]
def x_t_X0_heardInRow : List (Nat × x_Row) := [(0, .iload_n 1, 1, 0, 0, 0, 0), (1, .ifCond .lt 34, 3, 35, 0, 0, 0), (4, .iload_n 1, 1, 0, 0, 0, 0), (5, .aload_n 0, 1, 0, 0, 0, 0), (6, .getfield 26, 3, 0, 4, 344, 0), (9, .arraylength, 1, 0, 0, 0, 0), (10, .if_icmp .ge 25, 3, 35, 0, 0, 0), (13, .aload_n 0, 1, 0, 0, 0, 0), (14, .getfield 26, 3, 0, 4, 344, 0), (17, .iload_n 1, 1, 0, 0, 0, 0), (18, .iaload, 1, 0, 0, 0, 0), (19, .ifCond .lt 16, 3, 35, 0, 0, 0), (22, .aload_n 0, 1, 0, 0, 0, 0), (23, .getfield 26, 3, 0, 4, 344, 0), (26, .iload_n 1, 1, 0, 0, 0, 0), (27, .iaload, 1, 0, 0, 0, 0), (28, .aload_n 0, 1, 0, 0, 0, 0), (29, .getfield 22, 3, 0, 3, 343, 0), (32, .if_icmp .lt 5, 3, 37, 0, 0, 0), (35, .lconst 0, 1, 0, 0, 0, 0), (36, .lreturn, 1, 0, 0, 0, 0), (37, .aload_n 0, 1, 0, 0, 0, 0), (38, .getfield 19, 3, 0, 2, 342, 0), (41, .aload_n 0, 1, 0, 0, 0, 0), (42, .getfield 26, 3, 0, 4, 344, 0), (45, .iload_n 1, 1, 0, 0, 0, 0), (46, .iaload, 1, 0, 0, 0, 0), (47, .laload, 1, 0, 0, 0, 0), (48, .lreturn, 1, 0, 0, 0, 0)]
def x_t_X0_callTold : List (Nat × x_Row) := [(0, .iload_n 1, 1, 0, 0, 0, 0), (1, .ifCond .lt 25, 3, 26, 0, 0, 0), (4, .iload_n 1, 1, 0, 0, 0, 0), (5, .aload_n 0, 1, 0, 0, 0, 0), (6, .getfield 32, 3, 0, 6, 346, 0), (9, .if_icmp .ge 17, 3, 26, 0, 0, 0), (12, .aload_n 0, 1, 0, 0, 0, 0), (13, .getfield 11, 3, 0, 0, 340, 0), (16, .aload_n 0, 1, 0, 0, 0, 0), (17, .getfield 29, 3, 0, 5, 345, 0), (20, .iload_n 1, 1, 0, 0, 0, 0), (21, .iaload, 1, 0, 0, 0, 0), (22, .laload, 1, 0, 0, 0, 0), (23, .goto 6, 3, 29, 0, 0, 0), (26, .ldc2_w 69, 3, 0, 0, 1167, -1), (29, .lreturn, 1, 0, 0, 0, 0)]
def x_t_X0_blastsTold : List (Nat × x_Row) := [(0, .iconst 0, 1, 0, 0, 0, 0), (1, .istore_n 1, 1, 0, 0, 0, 0), (2, .iconst 0, 1, 0, 0, 0, 0), (3, .istore_n 2, 1, 0, 0, 0, 0), (4, .iload_n 2, 1, 0, 0, 0, 0), (5, .aload_n 0, 1, 0, 0, 0, 0), (6, .getfield 32, 3, 0, 6, 346, 0), (9, .if_icmp .ge 23, 3, 32, 0, 0, 0), (12, .iload_n 1, 1, 0, 0, 0, 0), (13, .aload_n 0, 1, 0, 0, 0, 0), (14, .getfield 15, 3, 0, 1, 341, 0), (17, .aload_n 0, 1, 0, 0, 0, 0), (18, .getfield 29, 3, 0, 5, 345, 0), (21, .iload_n 2, 1, 0, 0, 0, 0), (22, .iaload, 1, 0, 0, 0, 0), (23, .iaload, 1, 0, 0, 0, 0), (24, .iadd, 1, 0, 0, 0, 0), (25, .istore_n 1, 1, 0, 0, 0, 0), (26, .iinc 2 1, 3, 0, 0, 0, 0), (29, .goto (-25), 3, 4, 0, 0, 0), (32, .iload_n 1, 1, 0, 0, 0, 0), (33, .ireturn, 1, 0, 0, 0, 0)]
def x_t_X1_init : List (Nat × x_Row) := [(0, .aload_n 0, 1, 0, 0, 0, 0), (1, .invokespecial 3, 3, 1000, 0, 368, 0), (4, .aload_n 0, 1, 0, 0, 0, 0), (5, .aconst_null, 1, 0, 0, 0, 0), (6, .putfield 9, 3, 1, 0, 372, 0), (9, .aload_n 0, 1, 0, 0, 0, 0), (10, .iconst 0, 1, 0, 0, 0, 0), (11, .putfield 15, 3, 1, 1, 373, 0), (14, .aload_n 0, 1, 0, 0, 0, 0), (15, .new 19, 3, 3, 0, 369, 0), (18, .dup, 1, 0, 0, 0, 0), (19, .invokespecial 21, 3, 44, 1, 370, 0), (22, .putfield 22, 3, 1, 2, 375, 0), (25, .aload_n 0, 1, 0, 0, 0, 0), (26, .new 19, 3, 3, 0, 369, 0), (29, .dup, 1, 0, 0, 0, 0), (30, .invokespecial 21, 3, 44, 1, 370, 0), (33, .putfield 26, 3, 1, 3, 377, 0), (36, .aload_n 0, 1, 0, 0, 0, 0), (37, .ldc 29, 2, 0, 0, 371, 1000000000), (39, .putfield 30, 3, 1, 4, 379, 0), (42, .aload_n 0, 1, 0, 0, 0, 0), (43, .iconst 0, 1, 0, 0, 0, 0), (44, .putfield 33, 3, 1, 5, 380, 0), (47, .aload_n 0, 1, 0, 0, 0, 0), (48, .iconst 0, 1, 0, 0, 0, 0), (49, .putfield 36, 3, 1, 6, 381, 0), (52, .aload_n 0, 1, 0, 0, 0, 0), (53, .bipush 72, 2, 0, 0, 0, 0), (55, .newarray .int, 2, 0, 0, 0, 0), (57, .putfield 39, 3, 1, 7, 382, 0), (60, .aload_n 0, 1, 0, 0, 0, 0), (61, .iconst 0, 1, 0, 0, 0, 0), (62, .putfield 43, 3, 1, 8, 383, 0), (65, .aload_n 0, 1, 0, 0, 0, 0), (66, .bipush 72, 2, 0, 0, 0, 0), (68, .newarray .int, 2, 0, 0, 0, 0), (70, .putfield 46, 3, 1, 9, 385, 0), (73, .aload_n 0, 1, 0, 0, 0, 0), (74, .bipush 6, 2, 0, 0, 0, 0), (76, .newarray .int, 2, 0, 0, 0, 0), (78, .putfield 49, 3, 1, 10, 387, 0), (81, .aload_n 0, 1, 0, 0, 0, 0), (82, .bipush 6, 2, 0, 0, 0, 0), (84, .newarray .int, 2, 0, 0, 0, 0), (86, .putfield 52, 3, 1, 11, 388, 0), (89, .return_, 1, 0, 0, 0, 0)]
def x_t_X1_takeAll : List (Nat × x_Row) := [(0, .aload_n 0, 1, 0, 0, 0, 0), (1, .aload_n 1, 1, 0, 0, 0, 0), (2, .putfield 9, 3, 1, 0, 372, 0), (5, .aload_n 0, 1, 0, 0, 0, 0), (6, .aload_n 1, 1, 0, 0, 0, 0), (7, .getfield 55, 3, 4, 3, 280, 0), (10, .putfield 15, 3, 1, 1, 373, 0), (13, .aload_n 0, 1, 0, 0, 0, 0), (14, .aload_n 1, 1, 0, 0, 0, 0), (15, .iconst 0, 1, 0, 0, 0, 0), (16, .iconst (-1), 1, 0, 0, 0, 0), (17, .iconst 0, 1, 0, 0, 0, 0), (18, .invokevirtual 58, 3, 10, 5, 1203, 0), (21, .aload_n 0, 1, 0, 0, 0, 0), (22, .aload_n 1, 1, 0, 0, 0, 0), (23, .iconst (-1), 1, 0, 0, 0, 0), (24, .invokevirtual 62, 3, 11, 3, 1204, 0), (27, .return_, 1, 0, 0, 0, 0)]
def x_t_X1_takeShips : List (Nat × x_Row) := [(0, .aload_n 0, 1, 0, 0, 0, 0), (1, .getfield 22, 3, 1, 2, 375, 0), (4, .invokevirtual 66, 3, 45, 1, 1021, 0), (7, .iconst 0, 1, 0, 0, 0, 0), (8, .istore 5, 2, 0, 0, 0, 0), (10, .iload 5, 2, 0, 0, 0, 0), (12, .aload_n 1, 1, 0, 0, 0, 0), (13, .getfield 69, 3, 4, 7, 294, 0), (16, .getfield 70, 3, 3, 0, 230, 0), (19, .if_icmp .ge 58, 3, 77, 0, 0, 0), (22, .iload_n 2, 1, 0, 0, 0, 0), (23, .iload 5, 2, 0, 0, 0, 0), (25, .ishr, 1, 0, 0, 0, 0), (26, .iconst 1, 1, 0, 0, 0, 0), (27, .iand, 1, 0, 0, 0, 0), (28, .ifCond .ne 43, 3, 71, 0, 0, 0), (31, .aload_n 1, 1, 0, 0, 0, 0), (32, .getfield 69, 3, 4, 7, 294, 0), (35, .getfield 73, 3, 3, 2, 238, 0), (38, .iload 5, 2, 0, 0, 0, 0), (40, .iaload, 1, 0, 0, 0, 0), (41, .iload 5, 2, 0, 0, 0, 0), (43, .iload_n 3, 1, 0, 0, 0, 0), (44, .if_icmp .ne 8, 3, 52, 0, 0, 0), (47, .iload 4, 2, 0, 0, 0, 0), (49, .goto 4, 3, 53, 0, 0, 0), (52, .iconst 0, 1, 0, 0, 0, 0), (53, .iadd, 1, 0, 0, 0, 0), (54, .istore 6, 2, 0, 0, 0, 0), (56, .aload_n 0, 1, 0, 0, 0, 0), (57, .getfield 22, 3, 1, 2, 375, 0), (60, .aload_n 1, 1, 0, 0, 0, 0), (61, .getfield 69, 3, 4, 7, 294, 0), (64, .iload 5, 2, 0, 0, 0, 0), (66, .iload 6, 2, 0, 0, 0, 0), (68, .invokevirtual 76, 3, 46, 4, 1025, 0), (71, .iinc 5 1, 3, 0, 0, 0, 0), (74, .goto (-64), 3, 10, 0, 0, 0), (77, .return_, 1, 0, 0, 0, 0)]
def x_t_X1_takeCarts : List (Nat × x_Row) := [(0, .aload_n 0, 1, 0, 0, 0, 0), (1, .getfield 26, 3, 1, 3, 377, 0), (4, .invokevirtual 66, 3, 45, 1, 1021, 0), (7, .iconst 0, 1, 0, 0, 0, 0), (8, .istore_n 3, 1, 0, 0, 0, 0), (9, .iload_n 3, 1, 0, 0, 0, 0), (10, .aload_n 1, 1, 0, 0, 0, 0), (11, .getfield 80, 3, 4, 9, 303, 0), (14, .getfield 70, 3, 3, 0, 230, 0), (17, .if_icmp .ge 35, 3, 52, 0, 0, 0), (20, .iload_n 3, 1, 0, 0, 0, 0), (21, .iload_n 2, 1, 0, 0, 0, 0), (22, .if_icmp .eq 24, 3, 46, 0, 0, 0), (25, .aload_n 0, 1, 0, 0, 0, 0), (26, .getfield 26, 3, 1, 3, 377, 0), (29, .aload_n 1, 1, 0, 0, 0, 0), (30, .getfield 80, 3, 4, 9, 303, 0), (33, .iload_n 3, 1, 0, 0, 0, 0), (34, .aload_n 1, 1, 0, 0, 0, 0), (35, .getfield 80, 3, 4, 9, 303, 0), (38, .getfield 73, 3, 3, 2, 238, 0), (41, .iload_n 3, 1, 0, 0, 0, 0), (42, .iaload, 1, 0, 0, 0, 0), (43, .invokevirtual 76, 3, 46, 4, 1025, 0), (46, .iinc 3 1, 3, 0, 0, 0, 0), (49, .goto (-40), 3, 9, 0, 0, 0), (52, .return_, 1, 0, 0, 0, 0)]
def x_t_X1_turnEnd : List (Nat × x_Row) := [(0, .aload_n 0, 1, 0, 0, 0, 0), (1, .getfield 9, 3, 1, 0, 372, 0), (4, .ifnonnull 12, 3, 16, 0, 0, 0), (7, .iload_n 1, 1, 0, 0, 0, 0), (8, .aload_n 0, 1, 0, 0, 0, 0), (9, .getfield 15, 3, 1, 1, 373, 0), (12, .iadd, 1, 0, 0, 0, 0), (13, .goto 17, 3, 30, 0, 0, 0), (16, .iload_n 1, 1, 0, 0, 0, 0), (17, .aload_n 0, 1, 0, 0, 0, 0), (18, .getfield 9, 3, 1, 0, 372, 0), (21, .aload_n 0, 1, 0, 0, 0, 0), (22, .getfield 15, 3, 1, 1, 373, 0), (25, .iload_n 1, 1, 0, 0, 0, 0), (26, .invokevirtual 81, 3, 49, 3, 1217, 0), (29, .iadd, 1, 0, 0, 0, 0), (30, .ireturn, 1, 0, 0, 0, 0)]
def x_t_X1_leastWaits : List (Nat × x_Row) := [(0, .aload_n 0, 1, 0, 0, 0, 0), (1, .ldc 29, 2, 0, 0, 371, 1000000000), (3, .putfield 30, 3, 1, 4, 379, 0), (6, .aload_n 0, 1, 0, 0, 0, 0), (7, .iconst 0, 1, 0, 0, 0, 0), (8, .putfield 33, 3, 1, 5, 380, 0), (11, .aload_n 0, 1, 0, 0, 0, 0), (12, .iconst 0, 1, 0, 0, 0, 0), (13, .iconst 0, 1, 0, 0, 0, 0), (14, .iconst 0, 1, 0, 0, 0, 0), (15, .iconst 0, 1, 0, 0, 0, 0), (16, .iconst 0, 1, 0, 0, 0, 0), (17, .invokevirtual 85, 3, 17, 6, 1209, 0), (20, .aload_n 0, 1, 0, 0, 0, 0), (21, .getfield 30, 3, 1, 4, 379, 0), (24, .ireturn, 1, 0, 0, 0, 0)]
def x_t_X1_canPassWithin : List (Nat × x_Row) := [(0, .aload_n 0, 1, 0, 0, 0, 0), (1, .iconst 0, 1, 0, 0, 0, 0), (2, .iconst 0, 1, 0, 0, 0, 0), (3, .iconst 0, 1, 0, 0, 0, 0), (4, .iconst 0, 1, 0, 0, 0, 0), (5, .iload_n 1, 1, 0, 0, 0, 0), (6, .invokevirtual 89, 3, 16, 6, 1246, 0), (9, .ireturn, 1, 0, 0, 0, 0)]
def x_t_X1_allCanPass : List (Nat × x_Row) := [(0, .aload_n 0, 1, 0, 0, 0, 0), (1, .iconst 0, 1, 0, 0, 0, 0), (2, .iconst 0, 1, 0, 0, 0, 0), (3, .iconst 0, 1, 0, 0, 0, 0), (4, .iconst 0, 1, 0, 0, 0, 0), (5, .ldc 93, 2, 0, 0, 1289, 999999999), (7, .invokevirtual 89, 3, 16, 6, 1246, 0), (10, .ireturn, 1, 0, 0, 0, 0)]
def x_t_X1_canEndWithin : List (Nat × x_Row) := [(0, .aload_n 0, 1, 0, 0, 0, 0), (1, .iload 5, 2, 0, 0, 0, 0), (3, .iconst 1, 1, 0, 0, 0, 0), (4, .iadd, 1, 0, 0, 0, 0), (5, .putfield 30, 3, 1, 4, 379, 0), (8, .aload_n 0, 1, 0, 0, 0, 0), (9, .iload 5, 2, 0, 0, 0, 0), (11, .putfield 33, 3, 1, 5, 380, 0), (14, .aload_n 0, 1, 0, 0, 0, 0), (15, .iload_n 1, 1, 0, 0, 0, 0), (16, .iload_n 2, 1, 0, 0, 0, 0), (17, .iload_n 3, 1, 0, 0, 0, 0), (18, .iload 4, 2, 0, 0, 0, 0), (20, .iconst 0, 1, 0, 0, 0, 0), (21, .invokevirtual 85, 3, 17, 6, 1209, 0), (24, .aload_n 0, 1, 0, 0, 0, 0), (25, .getfield 30, 3, 1, 4, 379, 0), (28, .iload 5, 2, 0, 0, 0, 0), (30, .if_icmp .gt 7, 3, 37, 0, 0, 0), (33, .iconst 1, 1, 0, 0, 0, 0), (34, .goto 4, 3, 38, 0, 0, 0), (37, .iconst 0, 1, 0, 0, 0, 0), (38, .ireturn, 1, 0, 0, 0, 0)]
def x_t_X1_search : List (Nat × x_Row) := [(0, .iload 5, 2, 0, 0, 0, 0), (2, .aload_n 0, 1, 0, 0, 0, 0), (3, .getfield 30, 3, 1, 4, 379, 0), (6, .if_icmp .ge 14, 3, 20, 0, 0, 0), (9, .aload_n 0, 1, 0, 0, 0, 0), (10, .getfield 30, 3, 1, 4, 379, 0), (13, .aload_n 0, 1, 0, 0, 0, 0), (14, .getfield 33, 3, 1, 5, 380, 0), (17, .if_icmp .gt 4, 3, 21, 0, 0, 0), (20, .return_, 1, 0, 0, 0, 0), (21, .iload_n 3, 1, 0, 0, 0, 0), (22, .aload_n 0, 1, 0, 0, 0, 0), (23, .getfield 22, 3, 1, 2, 375, 0), (26, .getfield 70, 3, 3, 0, 230, 0), (29, .if_icmp .lt 22, 3, 51, 0, 0, 0), (32, .iload 4, 2, 0, 0, 0, 0), (34, .aload_n 0, 1, 0, 0, 0, 0), (35, .getfield 26, 3, 1, 3, 377, 0), (38, .getfield 70, 3, 3, 0, 230, 0), (41, .if_icmp .lt 10, 3, 51, 0, 0, 0), (44, .aload_n 0, 1, 0, 0, 0, 0), (45, .iload 5, 2, 0, 0, 0, 0), (47, .putfield 30, 3, 1, 4, 379, 0), (50, .return_, 1, 0, 0, 0, 0), (51, .iload_n 3, 1, 0, 0, 0, 0), (52, .aload_n 0, 1, 0, 0, 0, 0), (53, .getfield 22, 3, 1, 2, 375, 0), (56, .getfield 70, 3, 3, 0, 230, 0), (59, .if_icmp .ge 82, 3, 141, 0, 0, 0), (62, .aload_n 0, 1, 0, 0, 0, 0), (63, .getfield 22, 3, 1, 2, 375, 0), (66, .getfield 73, 3, 3, 2, 238, 0), (69, .iload_n 3, 1, 0, 0, 0, 0), (70, .iaload, 1, 0, 0, 0, 0), (71, .iload_n 2, 1, 0, 0, 0, 0), (72, .ifCond .eq 7, 3, 79, 0, 0, 0), (75, .iload_n 1, 1, 0, 0, 0, 0), (76, .goto 8, 3, 84, 0, 0, 0), (79, .aload_n 0, 1, 0, 0, 0, 0), (80, .iload_n 1, 1, 0, 0, 0, 0), (81, .invokevirtual 94, 3, 12, 2, 1213, 0), (84, .invokestatic 98, 3, 1002, 0, 1221, 0), (87, .istore 6, 2, 0, 0, 0, 0), (89, .aload_n 0, 1, 0, 0, 0, 0), (90, .getfield 22, 3, 1, 2, 375, 0), (93, .iload_n 3, 1, 0, 0, 0, 0), (94, .iload 6, 2, 0, 0, 0, 0), (96, .invokestatic 103, 3, 18, 3, 1222, 0), (99, .ifCond .eq 42, 3, 141, 0, 0, 0), (102, .aload_n 0, 1, 0, 0, 0, 0), (103, .getfield 22, 3, 1, 2, 375, 0), (106, .iload_n 3, 1, 0, 0, 0, 0), (107, .iload 6, 2, 0, 0, 0, 0), (109, .invokestatic 107, 3, 19, 3, 1225, 0), (112, .istore 7, 2, 0, 0, 0, 0), (114, .aload_n 0, 1, 0, 0, 0, 0), (115, .iload 6, 2, 0, 0, 0, 0), (117, .aload_n 0, 1, 0, 0, 0, 0), (118, .getfield 22, 3, 1, 2, 375, 0), (121, .getfield 111, 3, 3, 3, 242, 0), (124, .iload_n 3, 1, 0, 0, 0, 0), (125, .iaload, 1, 0, 0, 0, 0), (126, .iadd, 1, 0, 0, 0, 0), (127, .iconst 1, 1, 0, 0, 0, 0), (128, .iload_n 3, 1, 0, 0, 0, 0), (129, .iconst 1, 1, 0, 0, 0, 0), (130, .iadd, 1, 0, 0, 0, 0), (131, .iload 4, 2, 0, 0, 0, 0), (133, .iload 5, 2, 0, 0, 0, 0), (135, .iload 7, 2, 0, 0, 0, 0), (137, .iadd, 1, 0, 0, 0, 0), (138, .invokevirtual 85, 3, 17, 6, 1209, 0), (141, .iload 4, 2, 0, 0, 0, 0), (143, .aload_n 0, 1, 0, 0, 0, 0), (144, .getfield 26, 3, 1, 3, 377, 0), (147, .getfield 70, 3, 3, 0, 230, 0), (150, .if_icmp .ge 86, 3, 236, 0, 0, 0), (153, .aload_n 0, 1, 0, 0, 0, 0), (154, .getfield 26, 3, 1, 3, 377, 0), (157, .getfield 73, 3, 3, 2, 238, 0), (160, .iload 4, 2, 0, 0, 0, 0), (162, .iaload, 1, 0, 0, 0, 0), (163, .iload_n 2, 1, 0, 0, 0, 0), (164, .ifCond .eq 11, 3, 175, 0, 0, 0), (167, .aload_n 0, 1, 0, 0, 0, 0), (168, .iload_n 1, 1, 0, 0, 0, 0), (169, .invokevirtual 94, 3, 12, 2, 1213, 0), (172, .goto 4, 3, 176, 0, 0, 0), (175, .iload_n 1, 1, 0, 0, 0, 0), (176, .invokestatic 98, 3, 1002, 0, 1221, 0), (179, .istore 6, 2, 0, 0, 0, 0), (181, .aload_n 0, 1, 0, 0, 0, 0), (182, .getfield 26, 3, 1, 3, 377, 0), (185, .iload 4, 2, 0, 0, 0, 0), (187, .iload 6, 2, 0, 0, 0, 0), (189, .invokestatic 103, 3, 18, 3, 1222, 0), (192, .ifCond .eq 44, 3, 236, 0, 0, 0), (195, .aload_n 0, 1, 0, 0, 0, 0), (196, .getfield 26, 3, 1, 3, 377, 0), (199, .iload 4, 2, 0, 0, 0, 0), (201, .iload 6, 2, 0, 0, 0, 0), (203, .invokestatic 107, 3, 19, 3, 1225, 0), (206, .istore 7, 2, 0, 0, 0, 0), (208, .aload_n 0, 1, 0, 0, 0, 0), (209, .iload 6, 2, 0, 0, 0, 0), (211, .aload_n 0, 1, 0, 0, 0, 0), (212, .getfield 26, 3, 1, 3, 377, 0), (215, .getfield 111, 3, 3, 3, 242, 0), (218, .iload 4, 2, 0, 0, 0, 0), (220, .iaload, 1, 0, 0, 0, 0), (221, .iadd, 1, 0, 0, 0, 0), (222, .iconst 0, 1, 0, 0, 0, 0), (223, .iload_n 3, 1, 0, 0, 0, 0), (224, .iload 4, 2, 0, 0, 0, 0), (226, .iconst 1, 1, 0, 0, 0, 0), (227, .iadd, 1, 0, 0, 0, 0), (228, .iload 5, 2, 0, 0, 0, 0), (230, .iload 7, 2, 0, 0, 0, 0), (232, .iadd, 1, 0, 0, 0, 0), (233, .invokevirtual 85, 3, 17, 6, 1209, 0), (236, .return_, 1, 0, 0, 0, 0)]
def x_t_X1_canBegin : List (Nat × x_Row) := [(0, .iload_n 1, 1, 0, 0, 0, 0), (1, .ifCond .lt 28, 3, 29, 0, 0, 0), (4, .iload_n 1, 1, 0, 0, 0, 0), (5, .aload_n 0, 1, 0, 0, 0, 0), (6, .getfield 70, 3, 3, 0, 230, 0), (9, .if_icmp .ge 20, 3, 29, 0, 0, 0), (12, .iload_n 2, 1, 0, 0, 0, 0), (13, .sipush 240, 3, 0, 0, 0, 0), (16, .if_icmp .gt 13, 3, 29, 0, 0, 0), (19, .iload_n 2, 1, 0, 0, 0, 0), (20, .aload_n 0, 1, 0, 0, 0, 0), (21, .getfield 73, 3, 3, 2, 238, 0), (24, .iload_n 1, 1, 0, 0, 0, 0), (25, .iaload, 1, 0, 0, 0, 0), (26, .if_icmp .ge 5, 3, 31, 0, 0, 0), (29, .iconst 0, 1, 0, 0, 0, 0), (30, .ireturn, 1, 0, 0, 0, 0), (31, .aload_n 0, 1, 0, 0, 0, 0), (32, .getfield 114, 3, 3, 5, 252, 0), (35, .iload_n 1, 1, 0, 0, 0, 0), (36, .baload, 1, 0, 0, 0, 0), (37, .ifCond .eq 13, 3, 50, 0, 0, 0), (40, .iload_n 2, 1, 0, 0, 0, 0), (41, .aload_n 0, 1, 0, 0, 0, 0), (42, .getfield 73, 3, 3, 2, 238, 0), (45, .iload_n 1, 1, 0, 0, 0, 0), (46, .iaload, 1, 0, 0, 0, 0), (47, .if_icmp .ne 7, 3, 54, 0, 0, 0), (50, .iconst 1, 1, 0, 0, 0, 0), (51, .goto 4, 3, 55, 0, 0, 0), (54, .iconst 0, 1, 0, 0, 0, 0), (55, .ireturn, 1, 0, 0, 0, 0)]
def x_t_X1_waitsOf : List (Nat × x_Row) := [(0, .iload_n 1, 1, 0, 0, 0, 0), (1, .ifCond .lt 29, 3, 30, 0, 0, 0), (4, .iload_n 1, 1, 0, 0, 0, 0), (5, .aload_n 0, 1, 0, 0, 0, 0), (6, .getfield 70, 3, 3, 0, 230, 0), (9, .if_icmp .ge 21, 3, 30, 0, 0, 0), (12, .iload_n 2, 1, 0, 0, 0, 0), (13, .aload_n 0, 1, 0, 0, 0, 0), (14, .getfield 73, 3, 3, 2, 238, 0), (17, .iload_n 1, 1, 0, 0, 0, 0), (18, .iaload, 1, 0, 0, 0, 0), (19, .isub, 1, 0, 0, 0, 0), (20, .aload_n 0, 1, 0, 0, 0, 0), (21, .getfield 118, 3, 3, 4, 246, 0), (24, .iload_n 1, 1, 0, 0, 0, 0), (25, .iaload, 1, 0, 0, 0, 0), (26, .imul, 1, 0, 0, 0, 0), (27, .goto 4, 3, 31, 0, 0, 0), (30, .iconst 0, 1, 0, 0, 0, 0), (31, .ireturn, 1, 0, 0, 0, 0)]
def x_t_X1_layPlan : List (Nat × x_Row) := [(0, .aload_n 0, 1, 0, 0, 0, 0), (1, .iconst 0, 1, 0, 0, 0, 0), (2, .putfield 36, 3, 1, 6, 381, 0), (5, .aload_n 0, 1, 0, 0, 0, 0), (6, .invokevirtual 121, 3, 13, 1, 1241, 0), (9, .istore_n 1, 1, 0, 0, 0, 0), (10, .iload_n 1, 1, 0, 0, 0, 0), (11, .ldc 29, 2, 0, 0, 371, 1000000000), (13, .if_icmp .lt 5, 3, 18, 0, 0, 0), (16, .iconst 0, 1, 0, 0, 0, 0), (17, .ireturn, 1, 0, 0, 0, 0), (18, .iconst 0, 1, 0, 0, 0, 0), (19, .istore_n 2, 1, 0, 0, 0, 0), (20, .iconst 0, 1, 0, 0, 0, 0), (21, .istore_n 3, 1, 0, 0, 0, 0), (22, .iconst 0, 1, 0, 0, 0, 0), (23, .istore 4, 2, 0, 0, 0, 0), (25, .iconst 0, 1, 0, 0, 0, 0), (26, .istore 5, 2, 0, 0, 0, 0), (28, .iconst 0, 1, 0, 0, 0, 0), (29, .istore 6, 2, 0, 0, 0, 0), (31, .iload 6, 2, 0, 0, 0, 0), (33, .sipush 240, 3, 0, 0, 0, 0), (36, .if_icmp .gt 223, 3, 259, 0, 0, 0), (39, .iload 4, 2, 0, 0, 0, 0), (41, .iload 5, 2, 0, 0, 0, 0), (43, .iadd, 1, 0, 0, 0, 0), (44, .aload_n 0, 1, 0, 0, 0, 0), (45, .getfield 22, 3, 1, 2, 375, 0), (48, .getfield 70, 3, 3, 0, 230, 0), (51, .aload_n 0, 1, 0, 0, 0, 0), (52, .getfield 26, 3, 1, 3, 377, 0), (55, .getfield 70, 3, 3, 0, 230, 0), (58, .iadd, 1, 0, 0, 0, 0), (59, .if_icmp .ge 200, 3, 259, 0, 0, 0), (62, .iload_n 3, 1, 0, 0, 0, 0), (63, .ifCond .eq 72, 3, 135, 0, 0, 0), (66, .aload_n 0, 1, 0, 0, 0, 0), (67, .iload_n 2, 1, 0, 0, 0, 0), (68, .iload 4, 2, 0, 0, 0, 0), (70, .iload 5, 2, 0, 0, 0, 0), (72, .iload_n 1, 1, 0, 0, 0, 0), (73, .invokevirtual 125, 3, 21, 5, 1242, 0), (76, .ifCond .eq 59, 3, 135, 0, 0, 0), (79, .iload_n 1, 1, 0, 0, 0, 0), (80, .aload_n 0, 1, 0, 0, 0, 0), (81, .getfield 22, 3, 1, 2, 375, 0), (84, .iload 4, 2, 0, 0, 0, 0), (86, .iload_n 2, 1, 0, 0, 0, 0), (87, .invokestatic 107, 3, 19, 3, 1225, 0), (90, .isub, 1, 0, 0, 0, 0), (91, .istore_n 1, 1, 0, 0, 0, 0), (92, .aload_n 0, 1, 0, 0, 0, 0), (93, .iconst 0, 1, 0, 0, 0, 0), (94, .iload_n 2, 1, 0, 0, 0, 0), (95, .aload_n 0, 1, 0, 0, 0, 0), (96, .getfield 22, 3, 1, 2, 375, 0), (99, .getfield 129, 3, 3, 1, 235, 0), (102, .iload 4, 2, 0, 0, 0, 0), (104, .iaload, 1, 0, 0, 0, 0), (105, .invokevirtual 132, 3, 23, 4, 1250, 0), (108, .aload_n 0, 1, 0, 0, 0, 0), (109, .getfield 49, 3, 1, 10, 387, 0), (112, .iload 4, 2, 0, 0, 0, 0), (114, .iload_n 2, 1, 0, 0, 0, 0), (115, .iastore, 1, 0, 0, 0, 0), (116, .iload_n 2, 1, 0, 0, 0, 0), (117, .aload_n 0, 1, 0, 0, 0, 0), (118, .getfield 22, 3, 1, 2, 375, 0), (121, .getfield 111, 3, 3, 3, 242, 0), (124, .iload 4, 2, 0, 0, 0, 0), (126, .iaload, 1, 0, 0, 0, 0), (127, .iadd, 1, 0, 0, 0, 0), (128, .istore_n 2, 1, 0, 0, 0, 0), (129, .iinc 4 1, 3, 0, 0, 0, 0), (132, .goto 121, 3, 253, 0, 0, 0), (135, .iload_n 3, 1, 0, 0, 0, 0), (136, .ifCond .ne 72, 3, 208, 0, 0, 0), (139, .aload_n 0, 1, 0, 0, 0, 0), (140, .iload_n 2, 1, 0, 0, 0, 0), (141, .iload 4, 2, 0, 0, 0, 0), (143, .iload 5, 2, 0, 0, 0, 0), (145, .iload_n 1, 1, 0, 0, 0, 0), (146, .invokevirtual 136, 3, 22, 5, 1254, 0), (149, .ifCond .eq 59, 3, 208, 0, 0, 0), (152, .iload_n 1, 1, 0, 0, 0, 0), (153, .aload_n 0, 1, 0, 0, 0, 0), (154, .getfield 26, 3, 1, 3, 377, 0), (157, .iload 5, 2, 0, 0, 0, 0), (159, .iload_n 2, 1, 0, 0, 0, 0), (160, .invokestatic 107, 3, 19, 3, 1225, 0), (163, .isub, 1, 0, 0, 0, 0), (164, .istore_n 1, 1, 0, 0, 0, 0), (165, .aload_n 0, 1, 0, 0, 0, 0), (166, .iconst 1, 1, 0, 0, 0, 0), (167, .iload_n 2, 1, 0, 0, 0, 0), (168, .aload_n 0, 1, 0, 0, 0, 0), (169, .getfield 26, 3, 1, 3, 377, 0), (172, .getfield 129, 3, 3, 1, 235, 0), (175, .iload 5, 2, 0, 0, 0, 0), (177, .iaload, 1, 0, 0, 0, 0), (178, .invokevirtual 132, 3, 23, 4, 1250, 0), (181, .aload_n 0, 1, 0, 0, 0, 0), (182, .getfield 52, 3, 1, 11, 388, 0), (185, .iload 5, 2, 0, 0, 0, 0), (187, .iload_n 2, 1, 0, 0, 0, 0), (188, .iastore, 1, 0, 0, 0, 0), (189, .iload_n 2, 1, 0, 0, 0, 0), (190, .aload_n 0, 1, 0, 0, 0, 0), (191, .getfield 26, 3, 1, 3, 377, 0), (194, .getfield 111, 3, 3, 3, 242, 0), (197, .iload 5, 2, 0, 0, 0, 0), (199, .iaload, 1, 0, 0, 0, 0), (200, .iadd, 1, 0, 0, 0, 0), (201, .istore_n 2, 1, 0, 0, 0, 0), (202, .iinc 5 1, 3, 0, 0, 0, 0), (205, .goto 48, 3, 253, 0, 0, 0), (208, .aload_n 0, 1, 0, 0, 0, 0), (209, .iload_n 2, 1, 0, 0, 0, 0), (210, .iconst 1, 1, 0, 0, 0, 0), (211, .iadd, 1, 0, 0, 0, 0), (212, .iload_n 3, 1, 0, 0, 0, 0), (213, .iload 4, 2, 0, 0, 0, 0), (215, .iload 5, 2, 0, 0, 0, 0), (217, .iload_n 1, 1, 0, 0, 0, 0), (218, .invokevirtual 89, 3, 16, 6, 1246, 0), (221, .ifCond .eq 9, 3, 230, 0, 0, 0), (224, .iinc 2 1, 3, 0, 0, 0, 0), (227, .goto 26, 3, 253, 0, 0, 0), (230, .aload_n 0, 1, 0, 0, 0, 0), (231, .iconst 2, 1, 0, 0, 0, 0), (232, .iload_n 2, 1, 0, 0, 0, 0), (233, .iconst (-1), 1, 0, 0, 0, 0), (234, .invokevirtual 132, 3, 23, 4, 1250, 0), (237, .aload_n 0, 1, 0, 0, 0, 0), (238, .iload_n 2, 1, 0, 0, 0, 0), (239, .invokevirtual 94, 3, 12, 2, 1213, 0), (242, .istore_n 2, 1, 0, 0, 0, 0), (243, .iload_n 3, 1, 0, 0, 0, 0), (244, .ifCond .ne 7, 3, 251, 0, 0, 0), (247, .iconst 1, 1, 0, 0, 0, 0), (248, .goto 4, 3, 252, 0, 0, 0), (251, .iconst 0, 1, 0, 0, 0, 0), (252, .istore_n 3, 1, 0, 0, 0, 0), (253, .iinc 6 1, 3, 0, 0, 0, 0), (256, .goto (-225), 3, 31, 0, 0, 0), (259, .iconst 1, 1, 0, 0, 0, 0), (260, .ireturn, 1, 0, 0, 0, 0)]
def x_t_X1_shipMayBegin : List (Nat × x_Row) := [(0, .aload_n 0, 1, 0, 0, 0, 0), (1, .getfield 22, 3, 1, 2, 375, 0), (4, .iload_n 2, 1, 0, 0, 0, 0), (5, .iload_n 1, 1, 0, 0, 0, 0), (6, .invokestatic 103, 3, 18, 3, 1222, 0), (9, .ifCond .ne 5, 3, 14, 0, 0, 0), (12, .iconst 0, 1, 0, 0, 0, 0), (13, .ireturn, 1, 0, 0, 0, 0), (14, .iload 4, 2, 0, 0, 0, 0), (16, .aload_n 0, 1, 0, 0, 0, 0), (17, .getfield 22, 3, 1, 2, 375, 0), (20, .iload_n 2, 1, 0, 0, 0, 0), (21, .iload_n 1, 1, 0, 0, 0, 0), (22, .invokestatic 107, 3, 19, 3, 1225, 0), (25, .isub, 1, 0, 0, 0, 0), (26, .istore 5, 2, 0, 0, 0, 0), (28, .aload_n 0, 1, 0, 0, 0, 0), (29, .iload_n 1, 1, 0, 0, 0, 0), (30, .aload_n 0, 1, 0, 0, 0, 0), (31, .getfield 22, 3, 1, 2, 375, 0), (34, .getfield 111, 3, 3, 3, 242, 0), (37, .iload_n 2, 1, 0, 0, 0, 0), (38, .iaload, 1, 0, 0, 0, 0), (39, .iadd, 1, 0, 0, 0, 0), (40, .iconst 1, 1, 0, 0, 0, 0), (41, .iload_n 2, 1, 0, 0, 0, 0), (42, .iconst 1, 1, 0, 0, 0, 0), (43, .iadd, 1, 0, 0, 0, 0), (44, .iload_n 3, 1, 0, 0, 0, 0), (45, .iload 5, 2, 0, 0, 0, 0), (47, .invokevirtual 89, 3, 16, 6, 1246, 0), (50, .ireturn, 1, 0, 0, 0, 0)]
def x_t_X1_cartMayBegin : List (Nat × x_Row) := [(0, .aload_n 0, 1, 0, 0, 0, 0), (1, .getfield 26, 3, 1, 3, 377, 0), (4, .iload_n 3, 1, 0, 0, 0, 0), (5, .iload_n 1, 1, 0, 0, 0, 0), (6, .invokestatic 103, 3, 18, 3, 1222, 0), (9, .ifCond .ne 5, 3, 14, 0, 0, 0), (12, .iconst 0, 1, 0, 0, 0, 0), (13, .ireturn, 1, 0, 0, 0, 0), (14, .iload 4, 2, 0, 0, 0, 0), (16, .aload_n 0, 1, 0, 0, 0, 0), (17, .getfield 26, 3, 1, 3, 377, 0), (20, .iload_n 3, 1, 0, 0, 0, 0), (21, .iload_n 1, 1, 0, 0, 0, 0), (22, .invokestatic 107, 3, 19, 3, 1225, 0), (25, .isub, 1, 0, 0, 0, 0), (26, .istore 5, 2, 0, 0, 0, 0), (28, .aload_n 0, 1, 0, 0, 0, 0), (29, .iload_n 1, 1, 0, 0, 0, 0), (30, .aload_n 0, 1, 0, 0, 0, 0), (31, .getfield 26, 3, 1, 3, 377, 0), (34, .getfield 111, 3, 3, 3, 242, 0), (37, .iload_n 3, 1, 0, 0, 0, 0), (38, .iaload, 1, 0, 0, 0, 0), (39, .iadd, 1, 0, 0, 0, 0), (40, .iconst 0, 1, 0, 0, 0, 0), (41, .iload_n 2, 1, 0, 0, 0, 0), (42, .iload_n 3, 1, 0, 0, 0, 0), (43, .iconst 1, 1, 0, 0, 0, 0), (44, .iadd, 1, 0, 0, 0, 0), (45, .iload 5, 2, 0, 0, 0, 0), (47, .invokevirtual 89, 3, 16, 6, 1246, 0), (50, .ireturn, 1, 0, 0, 0, 0)]
def x_t_X1_addAct : List (Nat × x_Row) := [(0, .aload_n 0, 1, 0, 0, 0, 0), (1, .getfield 36, 3, 1, 6, 381, 0), (4, .bipush 24, 2, 0, 0, 0, 0), (6, .if_icmp .ge 53, 3, 59, 0, 0, 0), (9, .aload_n 0, 1, 0, 0, 0, 0), (10, .getfield 39, 3, 1, 7, 382, 0), (13, .iconst 3, 1, 0, 0, 0, 0), (14, .aload_n 0, 1, 0, 0, 0, 0), (15, .getfield 36, 3, 1, 6, 381, 0), (18, .imul, 1, 0, 0, 0, 0), (19, .iload_n 1, 1, 0, 0, 0, 0), (20, .iastore, 1, 0, 0, 0, 0), (21, .aload_n 0, 1, 0, 0, 0, 0), (22, .getfield 39, 3, 1, 7, 382, 0), (25, .iconst 3, 1, 0, 0, 0, 0), (26, .aload_n 0, 1, 0, 0, 0, 0), (27, .getfield 36, 3, 1, 6, 381, 0), (30, .imul, 1, 0, 0, 0, 0), (31, .iconst 1, 1, 0, 0, 0, 0), (32, .iadd, 1, 0, 0, 0, 0), (33, .iload_n 2, 1, 0, 0, 0, 0), (34, .iastore, 1, 0, 0, 0, 0), (35, .aload_n 0, 1, 0, 0, 0, 0), (36, .getfield 39, 3, 1, 7, 382, 0), (39, .iconst 3, 1, 0, 0, 0, 0), (40, .aload_n 0, 1, 0, 0, 0, 0), (41, .getfield 36, 3, 1, 6, 381, 0), (44, .imul, 1, 0, 0, 0, 0), (45, .iconst 2, 1, 0, 0, 0, 0), (46, .iadd, 1, 0, 0, 0, 0), (47, .iload_n 3, 1, 0, 0, 0, 0), (48, .iastore, 1, 0, 0, 0, 0), (49, .aload_n 0, 1, 0, 0, 0, 0), (50, .dup, 1, 0, 0, 0, 0), (51, .getfield 36, 3, 1, 6, 381, 0), (54, .iconst 1, 1, 0, 0, 0, 0), (55, .iadd, 1, 0, 0, 0, 0), (56, .putfield 36, 3, 1, 6, 381, 0), (59, .return_, 1, 0, 0, 0, 0)]
def x_t_X1_tellPlan : List (Nat × x_Row) := [(0, .aload_n 0, 1, 0, 0, 0, 0), (1, .getfield 39, 3, 1, 7, 382, 0), (4, .iconst 0, 1, 0, 0, 0, 0), (5, .aload_n 0, 1, 0, 0, 0, 0), (6, .getfield 46, 3, 1, 9, 385, 0), (9, .iconst 0, 1, 0, 0, 0, 0), (10, .aload_n 0, 1, 0, 0, 0, 0), (11, .getfield 39, 3, 1, 7, 382, 0), (14, .arraylength, 1, 0, 0, 0, 0), (15, .invokestatic 139, 3, 1001, 0, 1262, 0), (18, .aload_n 0, 1, 0, 0, 0, 0), (19, .aload_n 0, 1, 0, 0, 0, 0), (20, .getfield 36, 3, 1, 6, 381, 0), (23, .putfield 43, 3, 1, 8, 383, 0), (26, .return_, 1, 0, 0, 0, 0)]
def x_t_X1_dearestByPlan : List (Nat × x_Row) := [(0, .iconst 0, 1, 0, 0, 0, 0), (1, .istore_n 2, 1, 0, 0, 0, 0), (2, .iconst (-1), 1, 0, 0, 0, 0), (3, .istore_n 3, 1, 0, 0, 0, 0), (4, .iconst 0, 1, 0, 0, 0, 0), (5, .istore 4, 2, 0, 0, 0, 0), (7, .iload 4, 2, 0, 0, 0, 0), (9, .aload_n 1, 1, 0, 0, 0, 0), (10, .getfield 69, 3, 4, 7, 294, 0), (13, .getfield 70, 3, 3, 0, 230, 0), (16, .if_icmp .ge 36, 3, 52, 0, 0, 0), (19, .aload_n 0, 1, 0, 0, 0, 0), (20, .getfield 22, 3, 1, 2, 375, 0), (23, .aload_n 0, 1, 0, 0, 0, 0), (24, .getfield 49, 3, 1, 10, 387, 0), (27, .iload 4, 2, 0, 0, 0, 0), (29, .invokestatic 145, 3, 26, 3, 1314, 0), (32, .istore 5, 2, 0, 0, 0, 0), (34, .iload 5, 2, 0, 0, 0, 0), (36, .iload_n 2, 1, 0, 0, 0, 0), (37, .if_icmp .le 9, 3, 46, 0, 0, 0), (40, .iload 5, 2, 0, 0, 0, 0), (42, .istore_n 2, 1, 0, 0, 0, 0), (43, .iload 4, 2, 0, 0, 0, 0), (45, .istore_n 3, 1, 0, 0, 0, 0), (46, .iinc 4 1, 3, 0, 0, 0, 0), (49, .goto (-42), 3, 7, 0, 0, 0), (52, .iconst 0, 1, 0, 0, 0, 0), (53, .istore 4, 2, 0, 0, 0, 0), (55, .iload 4, 2, 0, 0, 0, 0), (57, .aload_n 1, 1, 0, 0, 0, 0), (58, .getfield 80, 3, 4, 9, 303, 0), (61, .getfield 70, 3, 3, 0, 230, 0), (64, .if_icmp .ge 39, 3, 103, 0, 0, 0), (67, .aload_n 0, 1, 0, 0, 0, 0), (68, .getfield 26, 3, 1, 3, 377, 0), (71, .aload_n 0, 1, 0, 0, 0, 0), (72, .getfield 52, 3, 1, 11, 388, 0), (75, .iload 4, 2, 0, 0, 0, 0), (77, .invokestatic 145, 3, 26, 3, 1314, 0), (80, .istore 5, 2, 0, 0, 0, 0), (82, .iload 5, 2, 0, 0, 0, 0), (84, .iload_n 2, 1, 0, 0, 0, 0), (85, .if_icmp .le 12, 3, 97, 0, 0, 0), (88, .iload 5, 2, 0, 0, 0, 0), (90, .istore_n 2, 1, 0, 0, 0, 0), (91, .iload 4, 2, 0, 0, 0, 0), (93, .bipush 6, 2, 0, 0, 0, 0), (95, .iadd, 1, 0, 0, 0, 0), (96, .istore_n 3, 1, 0, 0, 0, 0), (97, .iinc 4 1, 3, 0, 0, 0, 0), (100, .goto (-45), 3, 55, 0, 0, 0), (103, .iload_n 3, 1, 0, 0, 0, 0), (104, .ireturn, 1, 0, 0, 0, 0)]
def x_t_X1_waitsByNumber : List (Nat × x_Row) := [(0, .iconst 0, 1, 0, 0, 0, 0), (1, .istore_n 3, 1, 0, 0, 0, 0), (2, .iload_n 3, 1, 0, 0, 0, 0), (3, .aload_n 0, 1, 0, 0, 0, 0), (4, .getfield 70, 3, 3, 0, 230, 0), (7, .if_icmp .ge 34, 3, 41, 0, 0, 0), (10, .iload_n 3, 1, 0, 0, 0, 0), (11, .aload_n 1, 1, 0, 0, 0, 0), (12, .arraylength, 1, 0, 0, 0, 0), (13, .if_icmp .ge 28, 3, 41, 0, 0, 0), (16, .aload_n 0, 1, 0, 0, 0, 0), (17, .getfield 129, 3, 3, 1, 235, 0), (20, .iload_n 3, 1, 0, 0, 0, 0), (21, .iaload, 1, 0, 0, 0, 0), (22, .iload_n 2, 1, 0, 0, 0, 0), (23, .if_icmp .ne 12, 3, 35, 0, 0, 0), (26, .aload_n 0, 1, 0, 0, 0, 0), (27, .iload_n 3, 1, 0, 0, 0, 0), (28, .aload_n 1, 1, 0, 0, 0, 0), (29, .iload_n 3, 1, 0, 0, 0, 0), (30, .iaload, 1, 0, 0, 0, 0), (31, .invokestatic 107, 3, 19, 3, 1225, 0), (34, .ireturn, 1, 0, 0, 0, 0), (35, .iinc 3 1, 3, 0, 0, 0, 0), (38, .goto (-36), 3, 2, 0, 0, 0), (41, .iconst 0, 1, 0, 0, 0, 0), (42, .ireturn, 1, 0, 0, 0, 0)]
def x_t_X1_openedByPlan : List (Nat × x_Row) := [(0, .iconst 0, 1, 0, 0, 0, 0), (1, .istore_n 1, 1, 0, 0, 0, 0), (2, .iconst 0, 1, 0, 0, 0, 0), (3, .istore_n 2, 1, 0, 0, 0, 0), (4, .iconst 0, 1, 0, 0, 0, 0), (5, .istore_n 3, 1, 0, 0, 0, 0), (6, .iconst 0, 1, 0, 0, 0, 0), (7, .istore 4, 2, 0, 0, 0, 0), (9, .iload 4, 2, 0, 0, 0, 0), (11, .aload_n 0, 1, 0, 0, 0, 0), (12, .getfield 36, 3, 1, 6, 381, 0), (15, .if_icmp .ge 67, 3, 82, 0, 0, 0), (18, .aload_n 0, 1, 0, 0, 0, 0), (19, .getfield 39, 3, 1, 7, 382, 0), (22, .iconst 3, 1, 0, 0, 0, 0), (23, .iload 4, 2, 0, 0, 0, 0), (25, .imul, 1, 0, 0, 0, 0), (26, .iaload, 1, 0, 0, 0, 0), (27, .iconst 2, 1, 0, 0, 0, 0), (28, .if_icmp .ne 48, 3, 76, 0, 0, 0), (31, .aload_n 0, 1, 0, 0, 0, 0), (32, .getfield 39, 3, 1, 7, 382, 0), (35, .iconst 3, 1, 0, 0, 0, 0), (36, .iload 4, 2, 0, 0, 0, 0), (38, .imul, 1, 0, 0, 0, 0), (39, .iconst 1, 1, 0, 0, 0, 0), (40, .iadd, 1, 0, 0, 0, 0), (41, .iaload, 1, 0, 0, 0, 0), (42, .istore 5, 2, 0, 0, 0, 0), (44, .iload_n 1, 1, 0, 0, 0, 0), (45, .iload_n 2, 1, 0, 0, 0, 0), (46, .ifCond .eq 10, 3, 56, 0, 0, 0), (49, .iload 5, 2, 0, 0, 0, 0), (51, .iload_n 3, 1, 0, 0, 0, 0), (52, .isub, 1, 0, 0, 0, 0), (53, .goto 4, 3, 57, 0, 0, 0), (56, .iconst 0, 1, 0, 0, 0, 0), (57, .iadd, 1, 0, 0, 0, 0), (58, .istore_n 1, 1, 0, 0, 0, 0), (59, .iload_n 2, 1, 0, 0, 0, 0), (60, .ifCond .ne 7, 3, 67, 0, 0, 0), (63, .iconst 1, 1, 0, 0, 0, 0), (64, .goto 4, 3, 68, 0, 0, 0), (67, .iconst 0, 1, 0, 0, 0, 0), (68, .istore_n 2, 1, 0, 0, 0, 0), (69, .aload_n 0, 1, 0, 0, 0, 0), (70, .iload 5, 2, 0, 0, 0, 0), (72, .invokevirtual 94, 3, 12, 2, 1213, 0), (75, .istore_n 3, 1, 0, 0, 0, 0), (76, .iinc 4 1, 3, 0, 0, 0, 0), (79, .goto (-70), 3, 9, 0, 0, 0), (82, .aload_n 0, 1, 0, 0, 0, 0), (83, .getfield 22, 3, 1, 2, 375, 0), (86, .getfield 70, 3, 3, 0, 230, 0), (89, .iconst 1, 1, 0, 0, 0, 0), (90, .isub, 1, 0, 0, 0, 0), (91, .istore 4, 2, 0, 0, 0, 0), (93, .iload_n 2, 1, 0, 0, 0, 0), (94, .ifCond .eq 8, 3, 102, 0, 0, 0), (97, .iload 4, 2, 0, 0, 0, 0), (99, .ifCond .ge 5, 3, 104, 0, 0, 0), (102, .iload_n 1, 1, 0, 0, 0, 0), (103, .ireturn, 1, 0, 0, 0, 0), (104, .iload_n 1, 1, 0, 0, 0, 0), (105, .aload_n 0, 1, 0, 0, 0, 0), (106, .getfield 49, 3, 1, 10, 387, 0), (109, .iload 4, 2, 0, 0, 0, 0), (111, .iaload, 1, 0, 0, 0, 0), (112, .iadd, 1, 0, 0, 0, 0), (113, .aload_n 0, 1, 0, 0, 0, 0), (114, .getfield 22, 3, 1, 2, 375, 0), (117, .getfield 111, 3, 3, 3, 242, 0), (120, .iload 4, 2, 0, 0, 0, 0), (122, .iaload, 1, 0, 0, 0, 0), (123, .iadd, 1, 0, 0, 0, 0), (124, .iload_n 3, 1, 0, 0, 0, 0), (125, .isub, 1, 0, 0, 0, 0), (126, .ireturn, 1, 0, 0, 0, 0)]
def x_t_X1_busiestByPlan : List (Nat × x_Row) := [(0, .iconst 0, 1, 0, 0, 0, 0), (1, .istore_n 1, 1, 0, 0, 0, 0), (2, .iconst (-1), 1, 0, 0, 0, 0), (3, .istore_n 2, 1, 0, 0, 0, 0), (4, .iconst 0, 1, 0, 0, 0, 0), (5, .istore_n 3, 1, 0, 0, 0, 0), (6, .iload_n 3, 1, 0, 0, 0, 0), (7, .sipush 240, 3, 0, 0, 0, 0), (10, .if_icmp .gt 47, 3, 57, 0, 0, 0), (13, .aload_n 0, 1, 0, 0, 0, 0), (14, .getfield 22, 3, 1, 2, 375, 0), (17, .aload_n 0, 1, 0, 0, 0, 0), (18, .getfield 49, 3, 1, 10, 387, 0), (21, .iload_n 3, 1, 0, 0, 0, 0), (22, .invokestatic 149, 3, 29, 3, 1333, 0), (25, .aload_n 0, 1, 0, 0, 0, 0), (26, .getfield 26, 3, 1, 3, 377, 0), (29, .aload_n 0, 1, 0, 0, 0, 0), (30, .getfield 52, 3, 1, 11, 388, 0), (33, .iload_n 3, 1, 0, 0, 0, 0), (34, .invokestatic 149, 3, 29, 3, 1333, 0), (37, .iadd, 1, 0, 0, 0, 0), (38, .istore 4, 2, 0, 0, 0, 0), (40, .iload 4, 2, 0, 0, 0, 0), (42, .iload_n 1, 1, 0, 0, 0, 0), (43, .if_icmp .le 8, 3, 51, 0, 0, 0), (46, .iload 4, 2, 0, 0, 0, 0), (48, .istore_n 1, 1, 0, 0, 0, 0), (49, .iload_n 3, 1, 0, 0, 0, 0), (50, .istore_n 2, 1, 0, 0, 0, 0), (51, .iinc 3 1, 3, 0, 0, 0, 0), (54, .goto (-48), 3, 6, 0, 0, 0), (57, .iload_n 2, 1, 0, 0, 0, 0), (58, .ireturn, 1, 0, 0, 0, 0)]
def x_t_X1_waitingIn : List (Nat × x_Row) := [(0, .iconst 0, 1, 0, 0, 0, 0), (1, .istore_n 3, 1, 0, 0, 0, 0), (2, .iconst 0, 1, 0, 0, 0, 0), (3, .istore 4, 2, 0, 0, 0, 0), (5, .iload 4, 2, 0, 0, 0, 0), (7, .aload_n 0, 1, 0, 0, 0, 0), (8, .getfield 70, 3, 3, 0, 230, 0), (11, .if_icmp .ge 38, 3, 49, 0, 0, 0), (14, .iload 4, 2, 0, 0, 0, 0), (16, .aload_n 1, 1, 0, 0, 0, 0), (17, .arraylength, 1, 0, 0, 0, 0), (18, .if_icmp .ge 31, 3, 49, 0, 0, 0), (21, .aload_n 0, 1, 0, 0, 0, 0), (22, .getfield 73, 3, 3, 2, 238, 0), (25, .iload 4, 2, 0, 0, 0, 0), (27, .iaload, 1, 0, 0, 0, 0), (28, .iload_n 2, 1, 0, 0, 0, 0), (29, .if_icmp .gt 14, 3, 43, 0, 0, 0), (32, .aload_n 1, 1, 0, 0, 0, 0), (33, .iload 4, 2, 0, 0, 0, 0), (35, .iaload, 1, 0, 0, 0, 0), (36, .iload_n 2, 1, 0, 0, 0, 0), (37, .if_icmp .le 6, 3, 43, 0, 0, 0), (40, .iinc 3 1, 3, 0, 0, 0, 0), (43, .iinc 4 1, 3, 0, 0, 0, 0), (46, .goto (-41), 3, 5, 0, 0, 0), (49, .iload_n 3, 1, 0, 0, 0, 0), (50, .ireturn, 1, 0, 0, 0, 0)]
def x_t_X2_init : List (Nat × x_Row) := [(0, .aload_n 0, 1, 0, 0, 0, 0), (1, .invokespecial 3, 3, 1000, 0, 419, 0), (4, .aload_n 0, 1, 0, 0, 0, 0), (5, .new 9, 3, 3, 0, 420, 0), (8, .dup, 1, 0, 0, 0, 0), (9, .invokespecial 11, 3, 44, 1, 421, 0), (12, .putfield 12, 3, 2, 0, 422, 0), (15, .aload_n 0, 1, 0, 0, 0, 0), (16, .new 9, 3, 3, 0, 420, 0), (19, .dup, 1, 0, 0, 0, 0), (20, .invokespecial 11, 3, 44, 1, 421, 0), (23, .putfield 18, 3, 2, 1, 423, 0), (26, .aload_n 0, 1, 0, 0, 0, 0), (27, .bipush 6, 2, 0, 0, 0, 0), (29, .newarray .int, 2, 0, 0, 0, 0), (31, .putfield 21, 3, 2, 2, 424, 0), (34, .aload_n 0, 1, 0, 0, 0, 0), (35, .bipush 6, 2, 0, 0, 0, 0), (37, .newarray .int, 2, 0, 0, 0, 0), (39, .putfield 27, 3, 2, 3, 425, 0), (42, .aload_n 0, 1, 0, 0, 0, 0), (43, .iconst 0, 1, 0, 0, 0, 0), (44, .putfield 30, 3, 2, 4, 426, 0), (47, .aload_n 0, 1, 0, 0, 0, 0), (48, .iconst 0, 1, 0, 0, 0, 0), (49, .putfield 34, 3, 2, 5, 427, 0), (52, .aload_n 0, 1, 0, 0, 0, 0), (53, .iconst 0, 1, 0, 0, 0, 0), (54, .putfield 37, 3, 2, 6, 428, 0), (57, .aload_n 0, 1, 0, 0, 0, 0), (58, .iconst 0, 1, 0, 0, 0, 0), (59, .putfield 41, 3, 2, 7, 429, 0), (62, .aload_n 0, 1, 0, 0, 0, 0), (63, .iconst 0, 1, 0, 0, 0, 0), (64, .putfield 44, 3, 2, 8, 430, 0), (67, .aload_n 0, 1, 0, 0, 0, 0), (68, .iconst 0, 1, 0, 0, 0, 0), (69, .putfield 47, 3, 2, 9, 431, 0), (72, .aload_n 0, 1, 0, 0, 0, 0), (73, .iconst 0, 1, 0, 0, 0, 0), (74, .putfield 50, 3, 2, 10, 432, 0), (77, .aload_n 0, 1, 0, 0, 0, 0), (78, .iconst 0, 1, 0, 0, 0, 0), (79, .putfield 53, 3, 2, 11, 433, 0), (82, .aload_n 0, 1, 0, 0, 0, 0), (83, .iconst 0, 1, 0, 0, 0, 0), (84, .putfield 56, 3, 2, 12, 435, 0), (87, .aload_n 0, 1, 0, 0, 0, 0), (88, .iconst 0, 1, 0, 0, 0, 0), (89, .putfield 59, 3, 2, 13, 437, 0), (92, .aload_n 0, 1, 0, 0, 0, 0), (93, .iconst 0, 1, 0, 0, 0, 0), (94, .putfield 62, 3, 2, 14, 438, 0), (97, .aload_n 0, 1, 0, 0, 0, 0), (98, .iconst 0, 1, 0, 0, 0, 0), (99, .putfield 65, 3, 2, 15, 439, 0), (102, .aload_n 0, 1, 0, 0, 0, 0), (103, .iconst 5, 1, 0, 0, 0, 0), (104, .newarray .int, 2, 0, 0, 0, 0), (106, .putfield 68, 3, 2, 16, 441, 0), (109, .return_, 1, 0, 0, 0, 0)]
def x_t_X2_spendDay : List (Nat × x_Row) := [(0, .aload_n 0, 1, 0, 0, 0, 0), (1, .aload_n 1, 1, 0, 0, 0, 0), (2, .iload_n 3, 1, 0, 0, 0, 0), (3, .invokevirtual 71, 3, 32, 3, 1344, 0), (6, .aload_n 0, 1, 0, 0, 0, 0), (7, .iconst 0, 1, 0, 0, 0, 0), (8, .putfield 37, 3, 2, 6, 428, 0), (11, .aload_n 0, 1, 0, 0, 0, 0), (12, .iconst 0, 1, 0, 0, 0, 0), (13, .putfield 41, 3, 2, 7, 429, 0), (16, .aload_n 0, 1, 0, 0, 0, 0), (17, .iconst 0, 1, 0, 0, 0, 0), (18, .putfield 44, 3, 2, 8, 430, 0), (21, .aload_n 0, 1, 0, 0, 0, 0), (22, .iconst 0, 1, 0, 0, 0, 0), (23, .putfield 47, 3, 2, 9, 431, 0), (26, .aload_n 0, 1, 0, 0, 0, 0), (27, .iconst 0, 1, 0, 0, 0, 0), (28, .putfield 50, 3, 2, 10, 432, 0), (31, .aload_n 0, 1, 0, 0, 0, 0), (32, .iconst 0, 1, 0, 0, 0, 0), (33, .putfield 53, 3, 2, 11, 433, 0), (36, .aload_n 0, 1, 0, 0, 0, 0), (37, .iconst 0, 1, 0, 0, 0, 0), (38, .putfield 56, 3, 2, 12, 435, 0), (41, .aload_n 0, 1, 0, 0, 0, 0), (42, .iconst 0, 1, 0, 0, 0, 0), (43, .putfield 59, 3, 2, 13, 437, 0), (46, .aload_n 0, 1, 0, 0, 0, 0), (47, .iconst 0, 1, 0, 0, 0, 0), (48, .putfield 62, 3, 2, 14, 438, 0), (51, .aload_n 0, 1, 0, 0, 0, 0), (52, .iconst 0, 1, 0, 0, 0, 0), (53, .putfield 34, 3, 2, 5, 427, 0), (56, .aload_n 0, 1, 0, 0, 0, 0), (57, .getfield 34, 3, 2, 5, 427, 0), (60, .sipush 301, 3, 0, 0, 0, 0), (63, .if_icmp .ge 72, 3, 135, 0, 0, 0), (66, .aload_n 0, 1, 0, 0, 0, 0), (67, .invokevirtual 75, 3, 34, 1, 1355, 0), (70, .aload_n 0, 1, 0, 0, 0, 0), (71, .invokevirtual 78, 3, 42, 1, 1359, 0), (74, .ifCond .ne 20, 3, 94, 0, 0, 0), (77, .aload_n 0, 1, 0, 0, 0, 0), (78, .getfield 41, 3, 2, 7, 429, 0), (81, .iconst 1, 1, 0, 0, 0, 0), (82, .if_icmp .eq 12, 3, 94, 0, 0, 0), (85, .aload_n 0, 1, 0, 0, 0, 0), (86, .getfield 41, 3, 2, 7, 429, 0), (89, .iconst 2, 1, 0, 0, 0, 0), (90, .if_icmp .eq 4, 3, 94, 0, 0, 0), (93, .return_, 1, 0, 0, 0, 0), (94, .aload_n 0, 1, 0, 0, 0, 0), (95, .invokevirtual 82, 3, 35, 1, 1363, 0), (98, .aload_n 0, 1, 0, 0, 0, 0), (99, .getfield 41, 3, 2, 7, 429, 0), (102, .ifCond .ne 9, 3, 111, 0, 0, 0), (105, .aload_n 0, 1, 0, 0, 0, 0), (106, .aload_n 1, 1, 0, 0, 0, 0), (107, .aload_n 2, 1, 0, 0, 0, 0), (108, .invokevirtual 85, 3, 38, 3, 1375, 0), (111, .aload_n 0, 1, 0, 0, 0, 0), (112, .getfield 41, 3, 2, 7, 429, 0), (115, .ifCond .ne 7, 3, 122, 0, 0, 0), (118, .aload_n 0, 1, 0, 0, 0, 0), (119, .invokevirtual 89, 3, 40, 1, 1397, 0), (122, .aload_n 0, 1, 0, 0, 0, 0), (123, .dup, 1, 0, 0, 0, 0), (124, .getfield 34, 3, 2, 5, 427, 0), (127, .iconst 1, 1, 0, 0, 0, 0), (128, .iadd, 1, 0, 0, 0, 0), (129, .putfield 34, 3, 2, 5, 427, 0), (132, .goto (-76), 3, 56, 0, 0, 0), (135, .aload_n 0, 1, 0, 0, 0, 0), (136, .invokevirtual 75, 3, 34, 1, 1355, 0), (139, .return_, 1, 0, 0, 0, 0)]
def x_t_X2_comeLater : List (Nat × x_Row) := [(0, .aload_n 0, 1, 0, 0, 0, 0), (1, .iload_n 2, 1, 0, 0, 0, 0), (2, .putfield 30, 3, 2, 4, 426, 0), (5, .aload_n 0, 1, 0, 0, 0, 0), (6, .getfield 12, 3, 2, 0, 422, 0), (9, .invokevirtual 92, 3, 45, 1, 1348, 0), (12, .aload_n 0, 1, 0, 0, 0, 0), (13, .getfield 18, 3, 2, 1, 423, 0), (16, .invokevirtual 92, 3, 45, 1, 1348, 0), (19, .iconst 0, 1, 0, 0, 0, 0), (20, .istore_n 3, 1, 0, 0, 0, 0), (21, .iload_n 3, 1, 0, 0, 0, 0), (22, .aload_n 1, 1, 0, 0, 0, 0), (23, .getfield 95, 3, 4, 7, 295, 0), (26, .getfield 98, 3, 3, 0, 231, 0), (29, .if_icmp .ge 43, 3, 72, 0, 0, 0), (32, .aload_n 0, 1, 0, 0, 0, 0), (33, .getfield 12, 3, 2, 0, 422, 0), (36, .aload_n 1, 1, 0, 0, 0, 0), (37, .getfield 95, 3, 4, 7, 295, 0), (40, .iload_n 3, 1, 0, 0, 0, 0), (41, .aload_n 1, 1, 0, 0, 0, 0), (42, .getfield 95, 3, 4, 7, 295, 0), (45, .getfield 101, 3, 3, 2, 239, 0), (48, .iload_n 3, 1, 0, 0, 0, 0), (49, .iaload, 1, 0, 0, 0, 0), (50, .aload_n 0, 1, 0, 0, 0, 0), (51, .iload_n 2, 1, 0, 0, 0, 0), (52, .invokevirtual 104, 3, 33, 2, 1349, 0), (55, .iadd, 1, 0, 0, 0, 0), (56, .invokevirtual 108, 3, 46, 4, 1354, 0), (59, .aload_n 0, 1, 0, 0, 0, 0), (60, .getfield 21, 3, 2, 2, 424, 0), (63, .iload_n 3, 1, 0, 0, 0, 0), (64, .iconst 0, 1, 0, 0, 0, 0), (65, .iastore, 1, 0, 0, 0, 0), (66, .iinc 3 1, 3, 0, 0, 0, 0), (69, .goto (-48), 3, 21, 0, 0, 0), (72, .iconst 0, 1, 0, 0, 0, 0), (73, .istore_n 3, 1, 0, 0, 0, 0), (74, .iload_n 3, 1, 0, 0, 0, 0), (75, .aload_n 1, 1, 0, 0, 0, 0), (76, .getfield 112, 3, 4, 9, 302, 0), (79, .getfield 98, 3, 3, 0, 231, 0), (82, .if_icmp .ge 36, 3, 118, 0, 0, 0), (85, .aload_n 0, 1, 0, 0, 0, 0), (86, .getfield 18, 3, 2, 1, 423, 0), (89, .aload_n 1, 1, 0, 0, 0, 0), (90, .getfield 112, 3, 4, 9, 302, 0), (93, .iload_n 3, 1, 0, 0, 0, 0), (94, .aload_n 1, 1, 0, 0, 0, 0), (95, .getfield 112, 3, 4, 9, 302, 0), (98, .getfield 101, 3, 3, 2, 239, 0), (101, .iload_n 3, 1, 0, 0, 0, 0), (102, .iaload, 1, 0, 0, 0, 0), (103, .aload_n 0, 1, 0, 0, 0, 0), (104, .iload_n 2, 1, 0, 0, 0, 0), (105, .invokevirtual 104, 3, 33, 2, 1349, 0), (108, .iadd, 1, 0, 0, 0, 0), (109, .invokevirtual 108, 3, 46, 4, 1354, 0), (112, .iinc 3 1, 3, 0, 0, 0, 0), (115, .goto (-41), 3, 74, 0, 0, 0), (118, .return_, 1, 0, 0, 0, 0)]
def x_t_X2_delay : List (Nat × x_Row) := [(0, .iload_n 1, 1, 0, 0, 0, 0), (1, .iconst (-1), 1, 0, 0, 0, 0), (2, .if_icmp .ne 5, 3, 7, 0, 0, 0), (5, .iconst 0, 1, 0, 0, 0, 0), (6, .ireturn, 1, 0, 0, 0, 0), (7, .aload_n 0, 1, 0, 0, 0, 0), (8, .aload_n 0, 1, 0, 0, 0, 0), (9, .getfield 30, 3, 2, 4, 426, 0), (12, .sipush 2749, 3, 0, 0, 0, 0), (15, .imul, 1, 0, 0, 0, 0), (16, .sipush 12553, 3, 0, 0, 0, 0), (19, .iadd, 1, 0, 0, 0, 0), (20, .ldc 113, 2, 0, 0, 1353, 65536), (22, .irem, 1, 0, 0, 0, 0), (23, .putfield 30, 3, 2, 4, 426, 0), (26, .aload_n 0, 1, 0, 0, 0, 0), (27, .getfield 30, 3, 2, 4, 426, 0), (30, .bipush 8, 2, 0, 0, 0, 0), (32, .idiv, 1, 0, 0, 0, 0), (33, .bipush 8, 2, 0, 0, 0, 0), (35, .irem, 1, 0, 0, 0, 0), (36, .ireturn, 1, 0, 0, 0, 0)]
def x_t_X2_endWhatIsOver : List (Nat × x_Row) := [(0, .aload_n 0, 1, 0, 0, 0, 0), (1, .getfield 41, 3, 2, 7, 429, 0), (4, .ifCond .eq 14, 3, 18, 0, 0, 0), (7, .aload_n 0, 1, 0, 0, 0, 0), (8, .getfield 44, 3, 2, 8, 430, 0), (11, .aload_n 0, 1, 0, 0, 0, 0), (12, .getfield 34, 3, 2, 5, 427, 0), (15, .if_icmp .le 4, 3, 19, 0, 0, 0), (18, .return_, 1, 0, 0, 0, 0), (19, .aload_n 0, 1, 0, 0, 0, 0), (20, .getfield 41, 3, 2, 7, 429, 0), (23, .iconst 3, 1, 0, 0, 0, 0), (24, .if_icmp .ne 30, 3, 54, 0, 0, 0), (27, .aload_n 0, 1, 0, 0, 0, 0), (28, .aload_n 0, 1, 0, 0, 0, 0), (29, .getfield 37, 3, 2, 6, 428, 0), (32, .ifCond .ne 7, 3, 39, 0, 0, 0), (35, .iconst 1, 1, 0, 0, 0, 0), (36, .goto 4, 3, 40, 0, 0, 0), (39, .iconst 0, 1, 0, 0, 0, 0), (40, .putfield 37, 3, 2, 6, 428, 0), (43, .aload_n 0, 1, 0, 0, 0, 0), (44, .aload_n 0, 1, 0, 0, 0, 0), (45, .getfield 44, 3, 2, 8, 430, 0), (48, .putfield 47, 3, 2, 9, 431, 0), (51, .goto 21, 3, 72, 0, 0, 0), (54, .aload_n 0, 1, 0, 0, 0, 0), (55, .getfield 41, 3, 2, 7, 429, 0), (58, .iconst 1, 1, 0, 0, 0, 0), (59, .if_icmp .ne 13, 3, 72, 0, 0, 0), (62, .aload_n 0, 1, 0, 0, 0, 0), (63, .dup, 1, 0, 0, 0, 0), (64, .getfield 62, 3, 2, 14, 438, 0), (67, .iconst 1, 1, 0, 0, 0, 0), (68, .iadd, 1, 0, 0, 0, 0), (69, .putfield 62, 3, 2, 14, 438, 0), (72, .aload_n 0, 1, 0, 0, 0, 0), (73, .iconst 0, 1, 0, 0, 0, 0), (74, .putfield 41, 3, 2, 7, 429, 0), (77, .return_, 1, 0, 0, 0, 0)]
def x_t_X2_strikeSails : List (Nat × x_Row) := [(0, .iconst 0, 1, 0, 0, 0, 0), (1, .istore_n 1, 1, 0, 0, 0, 0), (2, .iload_n 1, 1, 0, 0, 0, 0), (3, .aload_n 0, 1, 0, 0, 0, 0), (4, .getfield 12, 3, 2, 0, 422, 0), (7, .getfield 98, 3, 3, 0, 231, 0), (10, .if_icmp .ge 46, 3, 56, 0, 0, 0), (13, .aload_n 0, 1, 0, 0, 0, 0), (14, .getfield 37, 3, 2, 6, 428, 0), (17, .ifCond .eq 22, 3, 39, 0, 0, 0), (20, .aload_n 0, 1, 0, 0, 0, 0), (21, .getfield 41, 3, 2, 7, 429, 0), (24, .ifCond .ne 15, 3, 39, 0, 0, 0), (27, .aload_n 0, 1, 0, 0, 0, 0), (28, .invokevirtual 114, 3, 37, 1, 1367, 0), (31, .iload_n 1, 1, 0, 0, 0, 0), (32, .if_icmp .ne 7, 3, 39, 0, 0, 0), (35, .iconst 1, 1, 0, 0, 0, 0), (36, .goto 4, 3, 40, 0, 0, 0), (39, .iconst 0, 1, 0, 0, 0, 0), (40, .istore_n 2, 1, 0, 0, 0, 0), (41, .iload_n 2, 1, 0, 0, 0, 0), (42, .ifCond .ne 8, 3, 50, 0, 0, 0), (45, .aload_n 0, 1, 0, 0, 0, 0), (46, .iload_n 1, 1, 0, 0, 0, 0), (47, .invokevirtual 117, 3, 36, 2, 1371, 0), (50, .iinc 1 1, 3, 0, 0, 0, 0), (53, .goto (-51), 3, 2, 0, 0, 0), (56, .return_, 1, 0, 0, 0, 0)]
def x_t_X2_strikeIfDue : List (Nat × x_Row) := [(0, .iload_n 1, 1, 0, 0, 0, 0), (1, .ifCond .lt 68, 3, 69, 0, 0, 0), (4, .iload_n 1, 1, 0, 0, 0, 0), (5, .aload_n 0, 1, 0, 0, 0, 0), (6, .getfield 12, 3, 2, 0, 422, 0), (9, .getfield 98, 3, 3, 0, 231, 0), (12, .if_icmp .ge 57, 3, 69, 0, 0, 0), (15, .aload_n 0, 1, 0, 0, 0, 0), (16, .getfield 12, 3, 2, 0, 422, 0), (19, .getfield 121, 3, 3, 5, 250, 0), (22, .iload_n 1, 1, 0, 0, 0, 0), (23, .baload, 1, 0, 0, 0, 0), (24, .ifCond .eq 45, 3, 69, 0, 0, 0), (27, .aload_n 0, 1, 0, 0, 0, 0), (28, .getfield 12, 3, 2, 0, 422, 0), (31, .getfield 101, 3, 3, 2, 239, 0), (34, .iload_n 1, 1, 0, 0, 0, 0), (35, .iaload, 1, 0, 0, 0, 0), (36, .aload_n 0, 1, 0, 0, 0, 0), (37, .getfield 34, 3, 2, 5, 427, 0), (40, .if_icmp .ne 29, 3, 69, 0, 0, 0), (43, .aload_n 0, 1, 0, 0, 0, 0), (44, .getfield 21, 3, 2, 2, 424, 0), (47, .iload_n 1, 1, 0, 0, 0, 0), (48, .iaload, 1, 0, 0, 0, 0), (49, .ifCond .ne 20, 3, 69, 0, 0, 0), (52, .aload_n 0, 1, 0, 0, 0, 0), (53, .getfield 21, 3, 2, 2, 424, 0), (56, .iload_n 1, 1, 0, 0, 0, 0), (57, .iconst 2, 1, 0, 0, 0, 0), (58, .iastore, 1, 0, 0, 0, 0), (59, .aload_n 0, 1, 0, 0, 0, 0), (60, .dup, 1, 0, 0, 0, 0), (61, .getfield 56, 3, 2, 12, 435, 0), (64, .iconst 1, 1, 0, 0, 0, 0), (65, .iadd, 1, 0, 0, 0, 0), (66, .putfield 56, 3, 2, 12, 435, 0), (69, .return_, 1, 0, 0, 0, 0)]
def x_t_X2_firstShipLeft : List (Nat × x_Row) := [(0, .iconst 0, 1, 0, 0, 0, 0), (1, .istore_n 1, 1, 0, 0, 0, 0), (2, .iload_n 1, 1, 0, 0, 0, 0), (3, .aload_n 0, 1, 0, 0, 0, 0), (4, .getfield 12, 3, 2, 0, 422, 0), (7, .getfield 98, 3, 3, 0, 231, 0), (10, .if_icmp .ge 20, 3, 30, 0, 0, 0), (13, .aload_n 0, 1, 0, 0, 0, 0), (14, .getfield 21, 3, 2, 2, 424, 0), (17, .iload_n 1, 1, 0, 0, 0, 0), (18, .iaload, 1, 0, 0, 0, 0), (19, .ifCond .ne 5, 3, 24, 0, 0, 0), (22, .iload_n 1, 1, 0, 0, 0, 0), (23, .ireturn, 1, 0, 0, 0, 0), (24, .iinc 1 1, 3, 0, 0, 0, 0), (27, .goto (-25), 3, 2, 0, 0, 0), (30, .iconst (-1), 1, 0, 0, 0, 0), (31, .ireturn, 1, 0, 0, 0, 0)]
def x_t_X2_obey : List (Nat × x_Row) := [(0, .aload_n 0, 1, 0, 0, 0, 0), (1, .invokevirtual 125, 3, 39, 1, 1379, 0), (4, .aload_n 2, 1, 0, 0, 0, 0), (5, .aload_n 0, 1, 0, 0, 0, 0), (6, .getfield 27, 3, 2, 3, 425, 0), (9, .invokevirtual 128, 3, 72, 2, 1383, 0), (12, .istore_n 3, 1, 0, 0, 0, 0), (13, .aload_n 0, 1, 0, 0, 0, 0), (14, .getfield 37, 3, 2, 6, 428, 0), (17, .ifCond .eq 16, 3, 33, 0, 0, 0), (20, .iload_n 3, 1, 0, 0, 0, 0), (21, .iconst 1, 1, 0, 0, 0, 0), (22, .if_icmp .ne 7, 3, 29, 0, 0, 0), (25, .iconst 1, 1, 0, 0, 0, 0), (26, .goto 16, 3, 42, 0, 0, 0), (29, .iconst 0, 1, 0, 0, 0, 0), (30, .goto 12, 3, 42, 0, 0, 0), (33, .iload_n 3, 1, 0, 0, 0, 0), (34, .ifCond .ne 7, 3, 41, 0, 0, 0), (37, .iconst 1, 1, 0, 0, 0, 0), (38, .goto 4, 3, 42, 0, 0, 0), (41, .iconst 0, 1, 0, 0, 0, 0), (42, .istore 4, 2, 0, 0, 0, 0), (44, .iload 4, 2, 0, 0, 0, 0), (46, .ifCond .ne 4, 3, 50, 0, 0, 0), (49, .return_, 1, 0, 0, 0, 0), (50, .aload_n 0, 1, 0, 0, 0, 0), (51, .iconst 3, 1, 0, 0, 0, 0), (52, .putfield 41, 3, 2, 7, 429, 0), (55, .aload_n 0, 1, 0, 0, 0, 0), (56, .aload_n 0, 1, 0, 0, 0, 0), (57, .getfield 34, 3, 2, 5, 427, 0), (60, .aload_n 1, 1, 0, 0, 0, 0), (61, .aload_n 1, 1, 0, 0, 0, 0), (62, .getfield 132, 3, 4, 3, 282, 0), (65, .aload_n 0, 1, 0, 0, 0, 0), (66, .getfield 34, 3, 2, 5, 427, 0), (69, .invokevirtual 135, 3, 49, 3, 1396, 0), (72, .iadd, 1, 0, 0, 0, 0), (73, .putfield 44, 3, 2, 8, 430, 0), (76, .aload_n 0, 1, 0, 0, 0, 0), (77, .dup, 1, 0, 0, 0, 0), (78, .getfield 59, 3, 2, 13, 437, 0), (81, .iconst 1, 1, 0, 0, 0, 0), (82, .iadd, 1, 0, 0, 0, 0), (83, .putfield 59, 3, 2, 13, 437, 0), (86, .iconst 0, 1, 0, 0, 0, 0), (87, .istore 5, 2, 0, 0, 0, 0), (89, .iload 5, 2, 0, 0, 0, 0), (91, .aload_n 0, 1, 0, 0, 0, 0), (92, .getfield 12, 3, 2, 0, 422, 0), (95, .getfield 98, 3, 3, 0, 231, 0), (98, .if_icmp .ge 15, 3, 113, 0, 0, 0), (101, .aload_n 0, 1, 0, 0, 0, 0), (102, .iload 5, 2, 0, 0, 0, 0), (104, .invokevirtual 117, 3, 36, 2, 1371, 0), (107, .iinc 5 1, 3, 0, 0, 0, 0), (110, .goto (-21), 3, 89, 0, 0, 0), (113, .return_, 1, 0, 0, 0, 0)]
def x_t_X2_gatherFacts : List (Nat × x_Row) := [(0, .iconst 0, 1, 0, 0, 0, 0), (1, .istore_n 1, 1, 0, 0, 0, 0), (2, .sipush 300, 3, 0, 0, 0, 0), (5, .istore_n 2, 1, 0, 0, 0, 0), (6, .aload_n 0, 1, 0, 0, 0, 0), (7, .getfield 12, 3, 2, 0, 422, 0), (10, .getfield 98, 3, 3, 0, 231, 0), (13, .iconst 1, 1, 0, 0, 0, 0), (14, .isub, 1, 0, 0, 0, 0), (15, .istore_n 3, 1, 0, 0, 0, 0), (16, .iload_n 3, 1, 0, 0, 0, 0), (17, .ifCond .lt 55, 3, 72, 0, 0, 0), (20, .aload_n 0, 1, 0, 0, 0, 0), (21, .getfield 12, 3, 2, 0, 422, 0), (24, .getfield 101, 3, 3, 2, 239, 0), (27, .iload_n 3, 1, 0, 0, 0, 0), (28, .iaload, 1, 0, 0, 0, 0), (29, .aload_n 0, 1, 0, 0, 0, 0), (30, .getfield 34, 3, 2, 5, 427, 0), (33, .if_icmp .le 21, 3, 54, 0, 0, 0), (36, .aload_n 0, 1, 0, 0, 0, 0), (37, .getfield 12, 3, 2, 0, 422, 0), (40, .getfield 101, 3, 3, 2, 239, 0), (43, .iload_n 3, 1, 0, 0, 0, 0), (44, .iaload, 1, 0, 0, 0, 0), (45, .aload_n 0, 1, 0, 0, 0, 0), (46, .getfield 34, 3, 2, 5, 427, 0), (49, .isub, 1, 0, 0, 0, 0), (50, .istore_n 2, 1, 0, 0, 0, 0), (51, .goto 15, 3, 66, 0, 0, 0), (54, .aload_n 0, 1, 0, 0, 0, 0), (55, .getfield 21, 3, 2, 2, 424, 0), (58, .iload_n 3, 1, 0, 0, 0, 0), (59, .iaload, 1, 0, 0, 0, 0), (60, .ifCond .ne 6, 3, 66, 0, 0, 0), (63, .iinc 1 1, 3, 0, 0, 0, 0), (66, .iinc 3 (-1), 3, 0, 0, 0, 0), (69, .goto (-53), 3, 16, 0, 0, 0), (72, .iconst 0, 1, 0, 0, 0, 0), (73, .istore_n 3, 1, 0, 0, 0, 0), (74, .aload_n 0, 1, 0, 0, 0, 0), (75, .getfield 50, 3, 2, 10, 432, 0), (78, .istore 4, 2, 0, 0, 0, 0), (80, .iload 4, 2, 0, 0, 0, 0), (82, .aload_n 0, 1, 0, 0, 0, 0), (83, .getfield 18, 3, 2, 1, 423, 0), (86, .getfield 98, 3, 3, 0, 231, 0), (89, .if_icmp .ge 29, 3, 118, 0, 0, 0), (92, .aload_n 0, 1, 0, 0, 0, 0), (93, .getfield 18, 3, 2, 1, 423, 0), (96, .getfield 101, 3, 3, 2, 239, 0), (99, .iload 4, 2, 0, 0, 0, 0), (101, .iaload, 1, 0, 0, 0, 0), (102, .aload_n 0, 1, 0, 0, 0, 0), (103, .getfield 34, 3, 2, 5, 427, 0), (106, .if_icmp .gt 6, 3, 112, 0, 0, 0), (109, .iinc 3 1, 3, 0, 0, 0, 0), (112, .iinc 4 1, 3, 0, 0, 0, 0), (115, .goto (-35), 3, 80, 0, 0, 0), (118, .aload_n 0, 1, 0, 0, 0, 0), (119, .getfield 27, 3, 2, 3, 425, 0), (122, .iconst 0, 1, 0, 0, 0, 0), (123, .aload_n 0, 1, 0, 0, 0, 0), (124, .getfield 37, 3, 2, 6, 428, 0), (127, .ifCond .eq 7, 3, 134, 0, 0, 0), (130, .iconst 1, 1, 0, 0, 0, 0), (131, .goto 4, 3, 135, 0, 0, 0), (134, .iconst 0, 1, 0, 0, 0, 0), (135, .iastore, 1, 0, 0, 0, 0), (136, .aload_n 0, 1, 0, 0, 0, 0), (137, .getfield 27, 3, 2, 3, 425, 0), (140, .iconst 1, 1, 0, 0, 0, 0), (141, .iload_n 1, 1, 0, 0, 0, 0), (142, .iastore, 1, 0, 0, 0, 0), (143, .aload_n 0, 1, 0, 0, 0, 0), (144, .getfield 27, 3, 2, 3, 425, 0), (147, .iconst 2, 1, 0, 0, 0, 0), (148, .iload_n 3, 1, 0, 0, 0, 0), (149, .iastore, 1, 0, 0, 0, 0), (150, .aload_n 0, 1, 0, 0, 0, 0), (151, .getfield 27, 3, 2, 3, 425, 0), (154, .iconst 3, 1, 0, 0, 0, 0), (155, .iload_n 2, 1, 0, 0, 0, 0), (156, .iastore, 1, 0, 0, 0, 0), (157, .aload_n 0, 1, 0, 0, 0, 0), (158, .getfield 27, 3, 2, 3, 425, 0), (161, .iconst 4, 1, 0, 0, 0, 0), (162, .aload_n 0, 1, 0, 0, 0, 0), (163, .getfield 34, 3, 2, 5, 427, 0), (166, .iastore, 1, 0, 0, 0, 0), (167, .aload_n 0, 1, 0, 0, 0, 0), (168, .getfield 27, 3, 2, 3, 425, 0), (171, .iconst 5, 1, 0, 0, 0, 0), (172, .aload_n 0, 1, 0, 0, 0, 0), (173, .getfield 34, 3, 2, 5, 427, 0), (176, .aload_n 0, 1, 0, 0, 0, 0), (177, .getfield 47, 3, 2, 9, 431, 0), (180, .isub, 1, 0, 0, 0, 0), (181, .iastore, 1, 0, 0, 0, 0), (182, .return_, 1, 0, 0, 0, 0)]
def x_t_X2_beginNext : List (Nat × x_Row) := [(0, .aload_n 0, 1, 0, 0, 0, 0), (1, .invokevirtual 114, 3, 37, 1, 1367, 0), (4, .istore_n 1, 1, 0, 0, 0, 0), (5, .aload_n 0, 1, 0, 0, 0, 0), (6, .getfield 37, 3, 2, 6, 428, 0), (9, .ifCond .eq 44, 3, 53, 0, 0, 0), (12, .iload_n 1, 1, 0, 0, 0, 0), (13, .iconst (-1), 1, 0, 0, 0, 0), (14, .if_icmp .eq 39, 3, 53, 0, 0, 0), (17, .aload_n 0, 1, 0, 0, 0, 0), (18, .getfield 12, 3, 2, 0, 422, 0), (21, .getfield 101, 3, 3, 2, 239, 0), (24, .iload_n 1, 1, 0, 0, 0, 0), (25, .iaload, 1, 0, 0, 0, 0), (26, .aload_n 0, 1, 0, 0, 0, 0), (27, .getfield 34, 3, 2, 5, 427, 0), (30, .if_icmp .gt 23, 3, 53, 0, 0, 0), (33, .aload_n 0, 1, 0, 0, 0, 0), (34, .getfield 21, 3, 2, 2, 424, 0), (37, .iload_n 1, 1, 0, 0, 0, 0), (38, .iconst 1, 1, 0, 0, 0, 0), (39, .iastore, 1, 0, 0, 0, 0), (40, .aload_n 0, 1, 0, 0, 0, 0), (41, .iconst 1, 1, 0, 0, 0, 0), (42, .aload_n 0, 1, 0, 0, 0, 0), (43, .getfield 12, 3, 2, 0, 422, 0), (46, .iload_n 1, 1, 0, 0, 0, 0), (47, .invokevirtual 139, 3, 41, 4, 1401, 0), (50, .goto 66, 3, 116, 0, 0, 0), (53, .aload_n 0, 1, 0, 0, 0, 0), (54, .getfield 37, 3, 2, 6, 428, 0), (57, .ifCond .ne 59, 3, 116, 0, 0, 0), (60, .aload_n 0, 1, 0, 0, 0, 0), (61, .getfield 50, 3, 2, 10, 432, 0), (64, .aload_n 0, 1, 0, 0, 0, 0), (65, .getfield 18, 3, 2, 1, 423, 0), (68, .getfield 98, 3, 3, 0, 231, 0), (71, .if_icmp .ge 45, 3, 116, 0, 0, 0), (74, .aload_n 0, 1, 0, 0, 0, 0), (75, .getfield 18, 3, 2, 1, 423, 0), (78, .getfield 101, 3, 3, 2, 239, 0), (81, .aload_n 0, 1, 0, 0, 0, 0), (82, .getfield 50, 3, 2, 10, 432, 0), (85, .iaload, 1, 0, 0, 0, 0), (86, .aload_n 0, 1, 0, 0, 0, 0), (87, .getfield 34, 3, 2, 5, 427, 0), (90, .if_icmp .gt 26, 3, 116, 0, 0, 0), (93, .aload_n 0, 1, 0, 0, 0, 0), (94, .iconst 2, 1, 0, 0, 0, 0), (95, .aload_n 0, 1, 0, 0, 0, 0), (96, .getfield 18, 3, 2, 1, 423, 0), (99, .aload_n 0, 1, 0, 0, 0, 0), (100, .getfield 50, 3, 2, 10, 432, 0), (103, .invokevirtual 139, 3, 41, 4, 1401, 0), (106, .aload_n 0, 1, 0, 0, 0, 0), (107, .dup, 1, 0, 0, 0, 0), (108, .getfield 50, 3, 2, 10, 432, 0), (111, .iconst 1, 1, 0, 0, 0, 0), (112, .iadd, 1, 0, 0, 0, 0), (113, .putfield 50, 3, 2, 10, 432, 0), (116, .return_, 1, 0, 0, 0, 0)]
def x_t_X2_begin : List (Nat × x_Row) := [(0, .iload_n 3, 1, 0, 0, 0, 0), (1, .ifCond .lt 58, 3, 59, 0, 0, 0), (4, .iload_n 3, 1, 0, 0, 0, 0), (5, .aload_n 2, 1, 0, 0, 0, 0), (6, .getfield 98, 3, 3, 0, 231, 0), (9, .if_icmp .ge 50, 3, 59, 0, 0, 0), (12, .aload_n 0, 1, 0, 0, 0, 0), (13, .iload_n 1, 1, 0, 0, 0, 0), (14, .putfield 41, 3, 2, 7, 429, 0), (17, .aload_n 0, 1, 0, 0, 0, 0), (18, .aload_n 0, 1, 0, 0, 0, 0), (19, .getfield 34, 3, 2, 5, 427, 0), (22, .aload_n 2, 1, 0, 0, 0, 0), (23, .getfield 143, 3, 3, 3, 243, 0), (26, .iload_n 3, 1, 0, 0, 0, 0), (27, .iaload, 1, 0, 0, 0, 0), (28, .iadd, 1, 0, 0, 0, 0), (29, .putfield 44, 3, 2, 8, 430, 0), (32, .aload_n 0, 1, 0, 0, 0, 0), (33, .dup, 1, 0, 0, 0, 0), (34, .getfield 53, 3, 2, 11, 433, 0), (37, .aload_n 0, 1, 0, 0, 0, 0), (38, .getfield 34, 3, 2, 5, 427, 0), (41, .aload_n 2, 1, 0, 0, 0, 0), (42, .getfield 101, 3, 3, 2, 239, 0), (45, .iload_n 3, 1, 0, 0, 0, 0), (46, .iaload, 1, 0, 0, 0, 0), (47, .isub, 1, 0, 0, 0, 0), (48, .aload_n 2, 1, 0, 0, 0, 0), (49, .getfield 146, 3, 3, 4, 247, 0), (52, .iload_n 3, 1, 0, 0, 0, 0), (53, .iaload, 1, 0, 0, 0, 0), (54, .imul, 1, 0, 0, 0, 0), (55, .iadd, 1, 0, 0, 0, 0), (56, .putfield 53, 3, 2, 11, 433, 0), (59, .return_, 1, 0, 0, 0, 0)]
def x_t_X2_left : List (Nat × x_Row) := [(0, .aload_n 0, 1, 0, 0, 0, 0), (1, .getfield 18, 3, 2, 1, 423, 0), (4, .getfield 98, 3, 3, 0, 231, 0), (7, .aload_n 0, 1, 0, 0, 0, 0), (8, .getfield 50, 3, 2, 10, 432, 0), (11, .isub, 1, 0, 0, 0, 0), (12, .istore_n 1, 1, 0, 0, 0, 0), (13, .iconst 0, 1, 0, 0, 0, 0), (14, .istore_n 2, 1, 0, 0, 0, 0), (15, .iload_n 2, 1, 0, 0, 0, 0), (16, .aload_n 0, 1, 0, 0, 0, 0), (17, .getfield 12, 3, 2, 0, 422, 0), (20, .getfield 98, 3, 3, 0, 231, 0), (23, .if_icmp .ge 21, 3, 44, 0, 0, 0), (26, .aload_n 0, 1, 0, 0, 0, 0), (27, .getfield 21, 3, 2, 2, 424, 0), (30, .iload_n 2, 1, 0, 0, 0, 0), (31, .iaload, 1, 0, 0, 0, 0), (32, .ifCond .ne 6, 3, 38, 0, 0, 0), (35, .iinc 1 1, 3, 0, 0, 0, 0), (38, .iinc 2 1, 3, 0, 0, 0, 0), (41, .goto (-26), 3, 15, 0, 0, 0), (44, .iload_n 1, 1, 0, 0, 0, 0), (45, .ireturn, 1, 0, 0, 0, 0)]
def x_t_X2_tellDay : List (Nat × x_Row) := [(0, .aload_n 0, 1, 0, 0, 0, 0), (1, .iconst 1, 1, 0, 0, 0, 0), (2, .putfield 65, 3, 2, 15, 439, 0), (5, .aload_n 0, 1, 0, 0, 0, 0), (6, .getfield 68, 3, 2, 16, 441, 0), (9, .iconst 0, 1, 0, 0, 0, 0), (10, .aload_n 0, 1, 0, 0, 0, 0), (11, .getfield 56, 3, 2, 12, 435, 0), (14, .iastore, 1, 0, 0, 0, 0), (15, .aload_n 0, 1, 0, 0, 0, 0), (16, .getfield 68, 3, 2, 16, 441, 0), (19, .iconst 1, 1, 0, 0, 0, 0), (20, .aload_n 0, 1, 0, 0, 0, 0), (21, .getfield 59, 3, 2, 13, 437, 0), (24, .iastore, 1, 0, 0, 0, 0), (25, .aload_n 0, 1, 0, 0, 0, 0), (26, .getfield 68, 3, 2, 16, 441, 0), (29, .iconst 2, 1, 0, 0, 0, 0), (30, .aload_n 0, 1, 0, 0, 0, 0), (31, .getfield 34, 3, 2, 5, 427, 0), (34, .iastore, 1, 0, 0, 0, 0), (35, .aload_n 0, 1, 0, 0, 0, 0), (36, .getfield 68, 3, 2, 16, 441, 0), (39, .iconst 3, 1, 0, 0, 0, 0), (40, .aload_n 0, 1, 0, 0, 0, 0), (41, .invokevirtual 78, 3, 42, 1, 1359, 0), (44, .iastore, 1, 0, 0, 0, 0), (45, .aload_n 0, 1, 0, 0, 0, 0), (46, .getfield 68, 3, 2, 16, 441, 0), (49, .iconst 4, 1, 0, 0, 0, 0), (50, .aload_n 0, 1, 0, 0, 0, 0), (51, .getfield 62, 3, 2, 14, 438, 0), (54, .iastore, 1, 0, 0, 0, 0), (55, .return_, 1, 0, 0, 0, 0)]
def x_t_X4_init : List (Nat × x_Row) := [(0, .aload_n 0, 1, 0, 0, 0, 0), (1, .invokespecial 1, 3, 1000, 0, 228, 0), (4, .aload_n 0, 1, 0, 0, 0, 0), (5, .iconst 0, 1, 0, 0, 0, 0), (6, .putfield 7, 3, 3, 0, 229, 0), (9, .aload_n 0, 1, 0, 0, 0, 0), (10, .bipush 6, 2, 0, 0, 0, 0), (12, .newarray .int, 2, 0, 0, 0, 0), (14, .putfield 13, 3, 3, 1, 234, 0), (17, .aload_n 0, 1, 0, 0, 0, 0), (18, .bipush 6, 2, 0, 0, 0, 0), (20, .newarray .int, 2, 0, 0, 0, 0), (22, .putfield 17, 3, 3, 2, 237, 0), (25, .aload_n 0, 1, 0, 0, 0, 0), (26, .bipush 6, 2, 0, 0, 0, 0), (28, .newarray .int, 2, 0, 0, 0, 0), (30, .putfield 20, 3, 3, 3, 241, 0), (33, .aload_n 0, 1, 0, 0, 0, 0), (34, .bipush 6, 2, 0, 0, 0, 0), (36, .newarray .int, 2, 0, 0, 0, 0), (38, .putfield 23, 3, 3, 4, 245, 0), (41, .aload_n 0, 1, 0, 0, 0, 0), (42, .bipush 6, 2, 0, 0, 0, 0), (44, .newarray .boolean, 2, 0, 0, 0, 0), (46, .putfield 26, 3, 3, 5, 249, 0), (49, .return_, 1, 0, 0, 0, 0)]
def x_t_X4_clear : List (Nat × x_Row) := [(0, .aload_n 0, 1, 0, 0, 0, 0), (1, .iconst 0, 1, 0, 0, 0, 0), (2, .putfield 7, 3, 3, 0, 229, 0), (5, .return_, 1, 0, 0, 0, 0)]
def x_t_X4_join : List (Nat × x_Row) := [(0, .aload_n 0, 1, 0, 0, 0, 0), (1, .getfield 7, 3, 3, 0, 229, 0), (4, .bipush 6, 2, 0, 0, 0, 0), (6, .if_icmp .ge 15, 3, 21, 0, 0, 0), (9, .iload_n 2, 1, 0, 0, 0, 0), (10, .ifCond .lt 11, 3, 21, 0, 0, 0), (13, .iload_n 2, 1, 0, 0, 0, 0), (14, .aload_n 1, 1, 0, 0, 0, 0), (15, .getfield 7, 3, 3, 0, 229, 0), (18, .if_icmp .lt 4, 3, 22, 0, 0, 0), (21, .return_, 1, 0, 0, 0, 0), (22, .aload_n 0, 1, 0, 0, 0, 0), (23, .getfield 7, 3, 3, 0, 229, 0), (26, .istore 4, 2, 0, 0, 0, 0), (28, .aload_n 0, 1, 0, 0, 0, 0), (29, .dup, 1, 0, 0, 0, 0), (30, .getfield 7, 3, 3, 0, 229, 0), (33, .iconst 1, 1, 0, 0, 0, 0), (34, .iadd, 1, 0, 0, 0, 0), (35, .putfield 7, 3, 3, 0, 229, 0), (38, .iload 4, 2, 0, 0, 0, 0), (40, .ifCond .le 73, 3, 113, 0, 0, 0), (43, .aload_n 0, 1, 0, 0, 0, 0), (44, .getfield 17, 3, 3, 2, 237, 0), (47, .iload 4, 2, 0, 0, 0, 0), (49, .iconst 1, 1, 0, 0, 0, 0), (50, .isub, 1, 0, 0, 0, 0), (51, .iaload, 1, 0, 0, 0, 0), (52, .iload_n 3, 1, 0, 0, 0, 0), (53, .if_icmp .le 60, 3, 113, 0, 0, 0), (56, .aload_n 0, 1, 0, 0, 0, 0), (57, .iload 4, 2, 0, 0, 0, 0), (59, .aload_n 0, 1, 0, 0, 0, 0), (60, .getfield 13, 3, 3, 1, 234, 0), (63, .iload 4, 2, 0, 0, 0, 0), (65, .iconst 1, 1, 0, 0, 0, 0), (66, .isub, 1, 0, 0, 0, 0), (67, .iaload, 1, 0, 0, 0, 0), (68, .aload_n 0, 1, 0, 0, 0, 0), (69, .getfield 17, 3, 3, 2, 237, 0), (72, .iload 4, 2, 0, 0, 0, 0), (74, .iconst 1, 1, 0, 0, 0, 0), (75, .isub, 1, 0, 0, 0, 0), (76, .iaload, 1, 0, 0, 0, 0), (77, .aload_n 0, 1, 0, 0, 0, 0), (78, .getfield 20, 3, 3, 3, 241, 0), (81, .iload 4, 2, 0, 0, 0, 0), (83, .iconst 1, 1, 0, 0, 0, 0), (84, .isub, 1, 0, 0, 0, 0), (85, .iaload, 1, 0, 0, 0, 0), (86, .aload_n 0, 1, 0, 0, 0, 0), (87, .getfield 23, 3, 3, 4, 245, 0), (90, .iload 4, 2, 0, 0, 0, 0), (92, .iconst 1, 1, 0, 0, 0, 0), (93, .isub, 1, 0, 0, 0, 0), (94, .iaload, 1, 0, 0, 0, 0), (95, .aload_n 0, 1, 0, 0, 0, 0), (96, .getfield 26, 3, 3, 5, 249, 0), (99, .iload 4, 2, 0, 0, 0, 0), (101, .iconst 1, 1, 0, 0, 0, 0), (102, .isub, 1, 0, 0, 0, 0), (103, .baload, 1, 0, 0, 0, 0), (104, .invokevirtual 30, 3, 47, 7, 1029, 0), (107, .iinc 4 (-1), 3, 0, 0, 0, 0), (110, .goto (-72), 3, 38, 0, 0, 0), (113, .aload_n 0, 1, 0, 0, 0, 0), (114, .iload 4, 2, 0, 0, 0, 0), (116, .iload_n 2, 1, 0, 0, 0, 0), (117, .iload_n 3, 1, 0, 0, 0, 0), (118, .aload_n 1, 1, 0, 0, 0, 0), (119, .getfield 20, 3, 3, 3, 241, 0), (122, .iload_n 2, 1, 0, 0, 0, 0), (123, .iaload, 1, 0, 0, 0, 0), (124, .aload_n 1, 1, 0, 0, 0, 0), (125, .getfield 23, 3, 3, 4, 245, 0), (128, .iload_n 2, 1, 0, 0, 0, 0), (129, .iaload, 1, 0, 0, 0, 0), (130, .aload_n 1, 1, 0, 0, 0, 0), (131, .getfield 26, 3, 3, 5, 249, 0), (134, .iload_n 2, 1, 0, 0, 0, 0), (135, .baload, 1, 0, 0, 0, 0), (136, .invokevirtual 30, 3, 47, 7, 1029, 0), (139, .return_, 1, 0, 0, 0, 0)]
def x_t_X4_put : List (Nat × x_Row) := [(0, .iload_n 1, 1, 0, 0, 0, 0), (1, .ifCond .lt 9, 3, 10, 0, 0, 0), (4, .iload_n 1, 1, 0, 0, 0, 0), (5, .bipush 6, 2, 0, 0, 0, 0), (7, .if_icmp .lt 4, 3, 11, 0, 0, 0), (10, .return_, 1, 0, 0, 0, 0), (11, .aload_n 0, 1, 0, 0, 0, 0), (12, .getfield 13, 3, 3, 1, 234, 0), (15, .iload_n 1, 1, 0, 0, 0, 0), (16, .iload_n 2, 1, 0, 0, 0, 0), (17, .iastore, 1, 0, 0, 0, 0), (18, .aload_n 0, 1, 0, 0, 0, 0), (19, .getfield 17, 3, 3, 2, 237, 0), (22, .iload_n 1, 1, 0, 0, 0, 0), (23, .iload_n 3, 1, 0, 0, 0, 0), (24, .iastore, 1, 0, 0, 0, 0), (25, .aload_n 0, 1, 0, 0, 0, 0), (26, .getfield 20, 3, 3, 3, 241, 0), (29, .iload_n 1, 1, 0, 0, 0, 0), (30, .iload 4, 2, 0, 0, 0, 0), (32, .iastore, 1, 0, 0, 0, 0), (33, .aload_n 0, 1, 0, 0, 0, 0), (34, .getfield 23, 3, 3, 4, 245, 0), (37, .iload_n 1, 1, 0, 0, 0, 0), (38, .iload 5, 2, 0, 0, 0, 0), (40, .iastore, 1, 0, 0, 0, 0), (41, .aload_n 0, 1, 0, 0, 0, 0), (42, .getfield 26, 3, 3, 5, 249, 0), (45, .iload_n 1, 1, 0, 0, 0, 0), (46, .iload 6, 2, 0, 0, 0, 0), (48, .bastore, 1, 0, 0, 0, 0), (49, .return_, 1, 0, 0, 0, 0)]
def x_t_X5_init : List (Nat × x_Row) := [(0, .aload_n 0, 1, 0, 0, 0, 0), (1, .invokespecial 3, 3, 1000, 0, 222, 0), (4, .aload_n 0, 1, 0, 0, 0, 0), (5, .iconst 0, 1, 0, 0, 0, 0), (6, .putfield 9, 3, 4, 0, 271, 0), (9, .aload_n 0, 1, 0, 0, 0, 0), (10, .bipush 6, 2, 0, 0, 0, 0), (12, .newarray .long, 2, 0, 0, 0, 0), (14, .putfield 15, 3, 4, 1, 274, 0), (17, .aload_n 0, 1, 0, 0, 0, 0), (18, .bipush 6, 2, 0, 0, 0, 0), (20, .newarray .long, 2, 0, 0, 0, 0), (22, .putfield 19, 3, 4, 2, 276, 0), (25, .aload_n 0, 1, 0, 0, 0, 0), (26, .iconst 5, 1, 0, 0, 0, 0), (27, .putfield 22, 3, 4, 3, 279, 0), (30, .aload_n 0, 1, 0, 0, 0, 0), (31, .iconst 0, 1, 0, 0, 0, 0), (32, .putfield 25, 3, 4, 4, 284, 0), (35, .aload_n 0, 1, 0, 0, 0, 0), (36, .iconst 0, 1, 0, 0, 0, 0), (37, .putfield 28, 3, 4, 5, 287, 0), (40, .aload_n 0, 1, 0, 0, 0, 0), (41, .iconst 0, 1, 0, 0, 0, 0), (42, .putfield 31, 3, 4, 6, 290, 0), (45, .aload_n 0, 1, 0, 0, 0, 0), (46, .new 34, 3, 3, 0, 223, 0), (49, .dup, 1, 0, 0, 0, 0), (50, .invokespecial 36, 3, 44, 1, 225, 0), (53, .putfield 37, 3, 4, 7, 293, 0), (56, .aload_n 0, 1, 0, 0, 0, 0), (57, .bipush 6, 2, 0, 0, 0, 0), (59, .newarray .int, 2, 0, 0, 0, 0), (61, .putfield 41, 3, 4, 8, 298, 0), (64, .aload_n 0, 1, 0, 0, 0, 0), (65, .new 34, 3, 3, 0, 223, 0), (68, .dup, 1, 0, 0, 0, 0), (69, .invokespecial 36, 3, 44, 1, 225, 0), (72, .putfield 45, 3, 4, 9, 301, 0), (75, .return_, 1, 0, 0, 0, 0)]
def x_t_X5_turnLength : List (Nat × x_Row) := [(0, .iload_n 2, 1, 0, 0, 0, 0), (1, .aload_n 0, 1, 0, 0, 0, 0), (2, .getfield 28, 3, 4, 5, 287, 0), (5, .if_icmp .lt 12, 3, 17, 0, 0, 0), (8, .iload_n 1, 1, 0, 0, 0, 0), (9, .aload_n 0, 1, 0, 0, 0, 0), (10, .getfield 25, 3, 4, 4, 284, 0), (13, .iadd, 1, 0, 0, 0, 0), (14, .goto 4, 3, 18, 0, 0, 0), (17, .iload_n 1, 1, 0, 0, 0, 0), (18, .ireturn, 1, 0, 0, 0, 0)]
def x_t_X5_soundOf : List (Nat × x_Row) := [(0, .lconst 0, 1, 0, 0, 0, 0), (1, .lstore_n 2, 1, 0, 0, 0, 0), (2, .lload_n 0, 1, 0, 0, 0, 0), (3, .lstore 4, 2, 0, 0, 0, 0), (5, .iconst 0, 1, 0, 0, 0, 0), (6, .istore 6, 2, 0, 0, 0, 0), (8, .iload 6, 2, 0, 0, 0, 0), (10, .bipush 6, 2, 0, 0, 0, 0), (12, .if_icmp .ge 53, 3, 65, 0, 0, 0), (15, .lload 4, 2, 0, 0, 0, 0), (17, .lconst 0, 1, 0, 0, 0, 0), (18, .lcmp, 1, 0, 0, 0, 0), (19, .ifCond .eq 46, 3, 65, 0, 0, 0), (22, .lload 4, 2, 0, 0, 0, 0), (24, .ldc2_w 50, 3, 0, 0, 778, 32), (27, .lrem, 1, 0, 0, 0, 0), (28, .ldc2_w 52, 3, 0, 0, 779, 12), (31, .lcmp, 1, 0, 0, 0, 0), (32, .ifCond .ne 13, 3, 45, 0, 0, 0), (35, .ldc2_w 54, 3, 0, 0, 780, 7), (38, .lload_n 2, 1, 0, 0, 0, 0), (39, .iconst 4, 1, 0, 0, 0, 0), (40, .lshl, 1, 0, 0, 0, 0), (41, .lor, 1, 0, 0, 0, 0), (42, .goto 8, 3, 50, 0, 0, 0), (45, .lconst 1, 1, 0, 0, 0, 0), (46, .lload_n 2, 1, 0, 0, 0, 0), (47, .iconst 2, 1, 0, 0, 0, 0), (48, .lshl, 1, 0, 0, 0, 0), (49, .lor, 1, 0, 0, 0, 0), (50, .lstore_n 2, 1, 0, 0, 0, 0), (51, .lload 4, 2, 0, 0, 0, 0), (53, .ldc2_w 50, 3, 0, 0, 778, 32), (56, .ldiv, 1, 0, 0, 0, 0), (57, .lstore 4, 2, 0, 0, 0, 0), (59, .iinc 6 1, 3, 0, 0, 0, 0), (62, .goto (-54), 3, 8, 0, 0, 0), (65, .lload_n 2, 1, 0, 0, 0, 0), (66, .lreturn, 1, 0, 0, 0, 0)]
def x_t_X5_withEcho : List (Nat × x_Row) := [(0, .lload_n 0, 1, 0, 0, 0, 0), (1, .lload_n 0, 1, 0, 0, 0, 0), (2, .iload_n 2, 1, 0, 0, 0, 0), (3, .lshl, 1, 0, 0, 0, 0), (4, .lor, 1, 0, 0, 0, 0), (5, .lreturn, 1, 0, 0, 0, 0)]
def x_t_X5_heardOf : List (Nat × x_Row) := [(0, .iload_n 1, 1, 0, 0, 0, 0), (1, .ifCond .lt 27, 3, 28, 0, 0, 0), (4, .iload_n 1, 1, 0, 0, 0, 0), (5, .aload_n 0, 1, 0, 0, 0, 0), (6, .getfield 9, 3, 4, 0, 271, 0), (9, .if_icmp .ge 19, 3, 28, 0, 0, 0), (12, .aload_n 0, 1, 0, 0, 0, 0), (13, .getfield 19, 3, 4, 2, 276, 0), (16, .iload_n 1, 1, 0, 0, 0, 0), (17, .laload, 1, 0, 0, 0, 0), (18, .aload_n 0, 1, 0, 0, 0, 0), (19, .getfield 31, 3, 4, 6, 290, 0), (22, .invokestatic 56, 3, 51, 2, 1054, 0), (25, .goto 4, 3, 29, 0, 0, 0), (28, .lconst 0, 1, 0, 0, 0, 0), (29, .lreturn, 1, 0, 0, 0, 0)]
def x_t_X5_bothHeard : List (Nat × x_Row) := [(0, .aload_n 0, 1, 0, 0, 0, 0), (1, .iload_n 1, 1, 0, 0, 0, 0), (2, .invokevirtual 60, 3, 52, 2, 1065, 0), (5, .aload_n 0, 1, 0, 0, 0, 0), (6, .iload_n 2, 1, 0, 0, 0, 0), (7, .invokevirtual 60, 3, 52, 2, 1065, 0), (10, .iload_n 3, 1, 0, 0, 0, 0), (11, .lshl, 1, 0, 0, 0, 0), (12, .lor, 1, 0, 0, 0, 0), (13, .lreturn, 1, 0, 0, 0, 0)]
def x_t_X5_leastBeats : List (Nat × x_Row) := [(0, .iload_n 2, 1, 0, 0, 0, 0), (1, .iload_n 1, 1, 0, 0, 0, 0), (2, .if_icmp .ge 7, 3, 9, 0, 0, 0), (5, .iconst 1, 1, 0, 0, 0, 0), (6, .goto 4, 3, 10, 0, 0, 0), (9, .iconst 0, 1, 0, 0, 0, 0), (10, .ireturn, 1, 0, 0, 0, 0)]
def x_t_X5_countReadings : List (Nat × x_Row) := [(0, .iconst 0, 1, 0, 0, 0, 0), (1, .istore 4, 2, 0, 0, 0, 0), (3, .iconst 0, 1, 0, 0, 0, 0), (4, .istore 5, 2, 0, 0, 0, 0), (6, .iload 5, 2, 0, 0, 0, 0), (8, .aload_n 0, 1, 0, 0, 0, 0), (9, .getfield 9, 3, 4, 0, 271, 0), (12, .if_icmp .ge 83, 3, 95, 0, 0, 0), (15, .iload_n 3, 1, 0, 0, 0, 0), (16, .iconst (-1), 1, 0, 0, 0, 0), (17, .if_icmp .eq 9, 3, 26, 0, 0, 0), (20, .iload_n 3, 1, 0, 0, 0, 0), (21, .iload 5, 2, 0, 0, 0, 0), (23, .if_icmp .ne 17, 3, 40, 0, 0, 0), (26, .aload_n 0, 1, 0, 0, 0, 0), (27, .iload 5, 2, 0, 0, 0, 0), (29, .invokevirtual 60, 3, 52, 2, 1065, 0), (32, .lload_n 1, 1, 0, 0, 0, 0), (33, .lcmp, 1, 0, 0, 0, 0), (34, .ifCond .ne 6, 3, 40, 0, 0, 0), (37, .iinc 4 1, 3, 0, 0, 0, 0), (40, .iconst 0, 1, 0, 0, 0, 0), (41, .istore 6, 2, 0, 0, 0, 0), (43, .iload 6, 2, 0, 0, 0, 0), (45, .aload_n 0, 1, 0, 0, 0, 0), (46, .getfield 9, 3, 4, 0, 271, 0), (49, .if_icmp .ge 40, 3, 89, 0, 0, 0), (52, .iload_n 3, 1, 0, 0, 0, 0), (53, .iconst (-1), 1, 0, 0, 0, 0), (54, .if_icmp .eq 15, 3, 69, 0, 0, 0), (57, .iload_n 3, 1, 0, 0, 0, 0), (58, .iload 5, 2, 0, 0, 0, 0), (60, .if_icmp .eq 9, 3, 69, 0, 0, 0), (63, .iload_n 3, 1, 0, 0, 0, 0), (64, .iload 6, 2, 0, 0, 0, 0), (66, .if_icmp .ne 17, 3, 83, 0, 0, 0), (69, .iload 4, 2, 0, 0, 0, 0), (71, .aload_n 0, 1, 0, 0, 0, 0), (72, .lload_n 1, 1, 0, 0, 0, 0), (73, .iload 5, 2, 0, 0, 0, 0), (75, .iload 6, 2, 0, 0, 0, 0), (77, .invokevirtual 64, 3, 56, 4, 1111, 0), (80, .iadd, 1, 0, 0, 0, 0), (81, .istore 4, 2, 0, 0, 0, 0), (83, .iinc 6 1, 3, 0, 0, 0, 0), (86, .goto (-43), 3, 43, 0, 0, 0), (89, .iinc 5 1, 3, 0, 0, 0, 0), (92, .goto (-86), 3, 6, 0, 0, 0), (95, .iload 4, 2, 0, 0, 0, 0), (97, .ireturn, 1, 0, 0, 0, 0)]
def x_t_X5_countBeats : List (Nat × x_Row) := [(0, .iconst 0, 1, 0, 0, 0, 0), (1, .istore 5, 2, 0, 0, 0, 0), (3, .aload_n 0, 1, 0, 0, 0, 0), (4, .iload_n 3, 1, 0, 0, 0, 0), (5, .iload 4, 2, 0, 0, 0, 0), (7, .invokevirtual 68, 3, 54, 3, 1115, 0), (10, .istore 6, 2, 0, 0, 0, 0), (12, .iload 6, 2, 0, 0, 0, 0), (14, .bipush 12, 2, 0, 0, 0, 0), (16, .if_icmp .gt 26, 3, 42, 0, 0, 0), (19, .aload_n 0, 1, 0, 0, 0, 0), (20, .iload_n 3, 1, 0, 0, 0, 0), (21, .iload 4, 2, 0, 0, 0, 0), (23, .iload 6, 2, 0, 0, 0, 0), (25, .invokevirtual 72, 3, 53, 4, 1116, 0), (28, .lload_n 1, 1, 0, 0, 0, 0), (29, .lcmp, 1, 0, 0, 0, 0), (30, .ifCond .ne 6, 3, 36, 0, 0, 0), (33, .iinc 5 1, 3, 0, 0, 0, 0), (36, .iinc 6 1, 3, 0, 0, 0, 0), (39, .goto (-27), 3, 12, 0, 0, 0), (42, .iload 5, 2, 0, 0, 0, 0), (44, .ireturn, 1, 0, 0, 0, 0)]
def x_t_X5_couplesAlike : List (Nat × x_Row) := [(0, .iconst 0, 1, 0, 0, 0, 0), (1, .istore_n 2, 1, 0, 0, 0, 0), (2, .iconst 0, 1, 0, 0, 0, 0), (3, .istore_n 3, 1, 0, 0, 0, 0), (4, .iload_n 3, 1, 0, 0, 0, 0), (5, .aload_n 0, 1, 0, 0, 0, 0), (6, .getfield 9, 3, 4, 0, 271, 0), (9, .if_icmp .ge 57, 3, 66, 0, 0, 0), (12, .iload_n 3, 1, 0, 0, 0, 0), (13, .iconst 1, 1, 0, 0, 0, 0), (14, .iadd, 1, 0, 0, 0, 0), (15, .istore 4, 2, 0, 0, 0, 0), (17, .iload 4, 2, 0, 0, 0, 0), (19, .aload_n 0, 1, 0, 0, 0, 0), (20, .getfield 9, 3, 4, 0, 271, 0), (23, .if_icmp .ge 37, 3, 60, 0, 0, 0), (26, .aload_n 0, 1, 0, 0, 0, 0), (27, .getfield 19, 3, 4, 2, 276, 0), (30, .iload_n 3, 1, 0, 0, 0, 0), (31, .laload, 1, 0, 0, 0, 0), (32, .iload_n 1, 1, 0, 0, 0, 0), (33, .invokestatic 56, 3, 51, 2, 1054, 0), (36, .aload_n 0, 1, 0, 0, 0, 0), (37, .getfield 19, 3, 4, 2, 276, 0), (40, .iload 4, 2, 0, 0, 0, 0), (42, .laload, 1, 0, 0, 0, 0), (43, .iload_n 1, 1, 0, 0, 0, 0), (44, .invokestatic 56, 3, 51, 2, 1054, 0), (47, .lcmp, 1, 0, 0, 0, 0), (48, .ifCond .ne 6, 3, 54, 0, 0, 0), (51, .iinc 2 1, 3, 0, 0, 0, 0), (54, .iinc 4 1, 3, 0, 0, 0, 0), (57, .goto (-40), 3, 17, 0, 0, 0), (60, .iinc 3 1, 3, 0, 0, 0, 0), (63, .goto (-59), 3, 4, 0, 0, 0), (66, .iload_n 2, 1, 0, 0, 0, 0), (67, .ireturn, 1, 0, 0, 0, 0)]
def x_t_X6_init : List (Nat × x_Row) := [(0, .aload_n 0, 1, 0, 0, 0, 0), (1, .invokespecial 3, 3, 1000, 0, 711, 0), (4, .aload_n 0, 1, 0, 0, 0, 0), (5, .new 9, 3, 4, 0, 712, 0), (8, .dup, 1, 0, 0, 0, 0), (9, .invokespecial 11, 3, 48, 1, 713, 0), (12, .putfield 12, 3, 5, 1, 716, 0), (15, .aload_n 0, 1, 0, 0, 0, 0), (16, .bipush 6, 2, 0, 0, 0, 0), (18, .newarray .long, 2, 0, 0, 0, 0), (20, .putfield 18, 3, 5, 2, 718, 0), (23, .aload_n 0, 1, 0, 0, 0, 0), (24, .bipush 18, 2, 0, 0, 0, 0), (26, .newarray .long, 2, 0, 0, 0, 0), (28, .putfield 24, 3, 5, 3, 719, 0), (31, .aload_n 0, 1, 0, 0, 0, 0), (32, .iconst 0, 1, 0, 0, 0, 0), (33, .putfield 27, 3, 5, 4, 720, 0), (36, .aload_n 0, 1, 0, 0, 0, 0), (37, .iconst 0, 1, 0, 0, 0, 0), (38, .putfield 31, 3, 5, 5, 721, 0), (41, .aload_n 0, 1, 0, 0, 0, 0), (42, .iconst 0, 1, 0, 0, 0, 0), (43, .putfield 35, 3, 5, 6, 722, 0), (46, .aload_n 0, 1, 0, 0, 0, 0), (47, .iconst 0, 1, 0, 0, 0, 0), (48, .putfield 38, 3, 5, 7, 723, 0), (51, .aload_n 0, 1, 0, 0, 0, 0), (52, .aload_n 1, 1, 0, 0, 0, 0), (53, .putfield 41, 3, 5, 0, 714, 0), (56, .return_, 1, 0, 0, 0, 0)]
def x_t_X6_readAll : List (Nat × x_Row) := [(0, .iconst 0, 1, 0, 0, 0, 0), (1, .istore_n 1, 1, 0, 0, 0, 0), (2, .iload_n 1, 1, 0, 0, 0, 0), (3, .sipush 900, 3, 0, 0, 0, 0), (6, .if_icmp .gt 175, 3, 181, 0, 0, 0), (9, .aload_n 0, 1, 0, 0, 0, 0), (10, .getfield 41, 3, 5, 0, 714, 0), (13, .getfield 45, 3, 8, 3, 667, 0), (16, .iconst 3, 1, 0, 0, 0, 0), (17, .if_icmp .eq 164, 3, 181, 0, 0, 0), (20, .iconst 0, 1, 0, 0, 0, 0), (21, .istore_n 2, 1, 0, 0, 0, 0), (22, .aload_n 0, 1, 0, 0, 0, 0), (23, .getfield 41, 3, 5, 0, 714, 0), (26, .getfield 50, 3, 8, 7, 673, 0), (29, .getstatic 54, 3, 0, 0, 745, 0), (32, .if_acmp .ne 11, 3, 43, 0, 0, 0), (35, .aload_n 0, 1, 0, 0, 0, 0), (36, .invokevirtual 59, 3, 60, 1, 747, 0), (39, .istore_n 2, 1, 0, 0, 0, 0), (40, .goto 117, 3, 157, 0, 0, 0), (43, .aload_n 0, 1, 0, 0, 0, 0), (44, .getfield 41, 3, 5, 0, 714, 0), (47, .getfield 50, 3, 8, 7, 673, 0), (50, .getstatic 63, 3, 1, 0, 781, 0), (53, .if_acmp .ne 11, 3, 64, 0, 0, 0), (56, .aload_n 0, 1, 0, 0, 0, 0), (57, .invokevirtual 66, 3, 61, 1, 783, 0), (60, .istore_n 2, 1, 0, 0, 0, 0), (61, .goto 96, 3, 157, 0, 0, 0), (64, .aload_n 0, 1, 0, 0, 0, 0), (65, .getfield 41, 3, 5, 0, 714, 0), (68, .getfield 50, 3, 8, 7, 673, 0), (71, .getstatic 69, 3, 2, 0, 791, 0), (74, .if_acmp .ne 11, 3, 85, 0, 0, 0), (77, .aload_n 0, 1, 0, 0, 0, 0), (78, .invokevirtual 72, 3, 62, 1, 793, 0), (81, .istore_n 2, 1, 0, 0, 0, 0), (82, .goto 75, 3, 157, 0, 0, 0), (85, .aload_n 0, 1, 0, 0, 0, 0), (86, .getfield 41, 3, 5, 0, 714, 0), (89, .getfield 50, 3, 8, 7, 673, 0), (92, .getstatic 75, 3, 3, 0, 799, 0), (95, .if_acmp .ne 11, 3, 106, 0, 0, 0), (98, .aload_n 0, 1, 0, 0, 0, 0), (99, .invokevirtual 78, 3, 63, 1, 801, 0), (102, .istore_n 2, 1, 0, 0, 0, 0), (103, .goto 54, 3, 157, 0, 0, 0), (106, .aload_n 0, 1, 0, 0, 0, 0), (107, .getfield 41, 3, 5, 0, 714, 0), (110, .getfield 50, 3, 8, 7, 673, 0), (113, .getstatic 81, 3, 4, 0, 805, 0), (116, .if_acmp .ne 11, 3, 127, 0, 0, 0), (119, .aload_n 0, 1, 0, 0, 0, 0), (120, .invokevirtual 84, 3, 64, 1, 807, 0), (123, .istore_n 2, 1, 0, 0, 0, 0), (124, .goto 33, 3, 157, 0, 0, 0), (127, .aload_n 0, 1, 0, 0, 0, 0), (128, .getfield 41, 3, 5, 0, 714, 0), (131, .getfield 50, 3, 8, 7, 673, 0), (134, .getstatic 87, 3, 5, 0, 833, 0), (137, .if_acmp .ne 11, 3, 148, 0, 0, 0), (140, .aload_n 0, 1, 0, 0, 0, 0), (141, .invokevirtual 90, 3, 65, 1, 835, 0), (144, .istore_n 2, 1, 0, 0, 0, 0), (145, .goto 12, 3, 157, 0, 0, 0), (148, .aload_n 0, 1, 0, 0, 0, 0), (149, .getfield 41, 3, 5, 0, 714, 0), (152, .iconst 2, 1, 0, 0, 0, 0), (153, .invokevirtual 93, 3, 91, 2, 751, 0), (156, .pop, 1, 0, 0, 0, 0), (157, .iload_n 2, 1, 0, 0, 0, 0), (158, .ifCond .eq 15, 3, 173, 0, 0, 0), (161, .aload_n 0, 1, 0, 0, 0, 0), (162, .getfield 41, 3, 5, 0, 714, 0), (165, .bipush 59, 2, 0, 0, 0, 0), (167, .invokevirtual 97, 3, 96, 2, 839, 0), (170, .ifCond .ne 5, 3, 175, 0, 0, 0), (173, .iconst 0, 1, 0, 0, 0, 0), (174, .ireturn, 1, 0, 0, 0, 0), (175, .iinc 1 1, 3, 0, 0, 0, 0), (178, .goto (-176), 3, 2, 0, 0, 0), (181, .iconst 1, 1, 0, 0, 0, 0), (182, .ireturn, 1, 0, 0, 0, 0)]
def x_t_X6_readPort : List (Nat × x_Row) := [(0, .aload_n 0, 1, 0, 0, 0, 0), (1, .getfield 12, 3, 5, 1, 716, 0), (4, .getfield 101, 3, 4, 0, 272, 0), (7, .istore_n 1, 1, 0, 0, 0, 0), (8, .iload_n 1, 1, 0, 0, 0, 0), (9, .bipush 6, 2, 0, 0, 0, 0), (11, .if_icmp .lt 13, 3, 24, 0, 0, 0), (14, .aload_n 0, 1, 0, 0, 0, 0), (15, .getfield 41, 3, 5, 0, 714, 0), (18, .bipush 6, 2, 0, 0, 0, 0), (20, .invokevirtual 93, 3, 91, 2, 751, 0), (23, .ireturn, 1, 0, 0, 0, 0), (24, .aload_n 0, 1, 0, 0, 0, 0), (25, .getfield 41, 3, 5, 0, 714, 0), (28, .invokevirtual 104, 3, 87, 1, 755, 0), (31, .aload_n 0, 1, 0, 0, 0, 0), (32, .getfield 18, 3, 5, 2, 718, 0), (35, .iload_n 1, 1, 0, 0, 0, 0), (36, .aload_n 0, 1, 0, 0, 0, 0), (37, .getfield 41, 3, 5, 0, 714, 0), (40, .getfield 107, 3, 8, 6, 671, 0), (43, .lastore, 1, 0, 0, 0, 0), (44, .aload_n 0, 1, 0, 0, 0, 0), (45, .invokevirtual 111, 3, 67, 1, 756, 0), (48, .ifCond .eq 16, 3, 64, 0, 0, 0), (51, .aload_n 0, 1, 0, 0, 0, 0), (52, .getfield 41, 3, 5, 0, 714, 0), (55, .getstatic 114, 3, 6, 0, 764, 0), (58, .invokevirtual 117, 3, 95, 2, 766, 0), (61, .ifCond .ne 5, 3, 66, 0, 0, 0), (64, .iconst 0, 1, 0, 0, 0, 0), (65, .ireturn, 1, 0, 0, 0, 0), (66, .aload_n 0, 1, 0, 0, 0, 0), (67, .getfield 41, 3, 5, 0, 714, 0), (70, .invokevirtual 121, 3, 93, 1, 771, 0), (73, .ifCond .ne 12, 3, 85, 0, 0, 0), (76, .aload_n 0, 1, 0, 0, 0, 0), (77, .getfield 41, 3, 5, 0, 714, 0), (80, .iconst 2, 1, 0, 0, 0, 0), (81, .invokevirtual 93, 3, 91, 2, 751, 0), (84, .ireturn, 1, 0, 0, 0, 0), (85, .iconst 0, 1, 0, 0, 0, 0), (86, .istore_n 2, 1, 0, 0, 0, 0), (87, .iload_n 2, 1, 0, 0, 0, 0), (88, .iload_n 1, 1, 0, 0, 0, 0), (89, .if_icmp .ge 38, 3, 127, 0, 0, 0), (92, .aload_n 0, 1, 0, 0, 0, 0), (93, .getfield 12, 3, 5, 1, 716, 0), (96, .getfield 124, 3, 4, 1, 275, 0), (99, .iload_n 2, 1, 0, 0, 0, 0), (100, .laload, 1, 0, 0, 0, 0), (101, .aload_n 0, 1, 0, 0, 0, 0), (102, .getfield 41, 3, 5, 0, 714, 0), (105, .getfield 107, 3, 8, 6, 671, 0), (108, .lcmp, 1, 0, 0, 0, 0), (109, .ifCond .ne 12, 3, 121, 0, 0, 0), (112, .aload_n 0, 1, 0, 0, 0, 0), (113, .getfield 41, 3, 5, 0, 714, 0), (116, .iconst 5, 1, 0, 0, 0, 0), (117, .invokevirtual 93, 3, 91, 2, 751, 0), (120, .ireturn, 1, 0, 0, 0, 0), (121, .iinc 2 1, 3, 0, 0, 0, 0), (124, .goto (-37), 3, 87, 0, 0, 0), (127, .aload_n 0, 1, 0, 0, 0, 0), (128, .getfield 12, 3, 5, 1, 716, 0), (131, .getfield 124, 3, 4, 1, 275, 0), (134, .iload_n 1, 1, 0, 0, 0, 0), (135, .aload_n 0, 1, 0, 0, 0, 0), (136, .getfield 41, 3, 5, 0, 714, 0), (139, .getfield 107, 3, 8, 6, 671, 0), (142, .lastore, 1, 0, 0, 0, 0), (143, .aload_n 0, 1, 0, 0, 0, 0), (144, .getfield 12, 3, 5, 1, 716, 0), (147, .getfield 127, 3, 4, 2, 277, 0), (150, .iload_n 1, 1, 0, 0, 0, 0), (151, .aload_n 0, 1, 0, 0, 0, 0), (152, .getfield 41, 3, 5, 0, 714, 0), (155, .getfield 107, 3, 8, 6, 671, 0), (158, .invokestatic 130, 3, 50, 1, 775, 0), (161, .lastore, 1, 0, 0, 0, 0), (162, .aload_n 0, 1, 0, 0, 0, 0), (163, .getfield 12, 3, 5, 1, 716, 0), (166, .dup, 1, 0, 0, 0, 0), (167, .getfield 101, 3, 4, 0, 272, 0), (170, .iconst 1, 1, 0, 0, 0, 0), (171, .iadd, 1, 0, 0, 0, 0), (172, .putfield 101, 3, 4, 0, 272, 0), (175, .aload_n 0, 1, 0, 0, 0, 0), (176, .getfield 41, 3, 5, 0, 714, 0), (179, .invokevirtual 104, 3, 87, 1, 755, 0), (182, .iconst 1, 1, 0, 0, 0, 0), (183, .ireturn, 1, 0, 0, 0, 0)]
def x_t_X6_readTurns : List (Nat × x_Row) := [(0, .aload_n 0, 1, 0, 0, 0, 0), (1, .getfield 31, 3, 5, 5, 721, 0), (4, .ifCond .eq 12, 3, 16, 0, 0, 0), (7, .aload_n 0, 1, 0, 0, 0, 0), (8, .getfield 41, 3, 5, 0, 714, 0), (11, .iconst 5, 1, 0, 0, 0, 0), (12, .invokevirtual 93, 3, 91, 2, 751, 0), (15, .ireturn, 1, 0, 0, 0, 0), (16, .aload_n 0, 1, 0, 0, 0, 0), (17, .iconst 1, 1, 0, 0, 0, 0), (18, .putfield 31, 3, 5, 5, 721, 0), (21, .aload_n 0, 1, 0, 0, 0, 0), (22, .getfield 41, 3, 5, 0, 714, 0), (25, .invokevirtual 104, 3, 87, 1, 755, 0), (28, .aload_n 0, 1, 0, 0, 0, 0), (29, .getfield 12, 3, 5, 1, 716, 0), (32, .aload_n 0, 1, 0, 0, 0, 0), (33, .getfield 41, 3, 5, 0, 714, 0), (36, .getfield 134, 3, 8, 8, 676, 0), (39, .putfield 137, 3, 4, 3, 281, 0), (42, .aload_n 0, 1, 0, 0, 0, 0), (43, .getfield 41, 3, 5, 0, 714, 0), (46, .iconst 1, 1, 0, 0, 0, 0), (47, .bipush 20, 2, 0, 0, 0, 0), (49, .invokevirtual 140, 3, 97, 3, 787, 0), (52, .ireturn, 1, 0, 0, 0, 0)]
def x_t_X6_readFrost : List (Nat × x_Row) := [(0, .aload_n 0, 1, 0, 0, 0, 0), (1, .getfield 35, 3, 5, 6, 722, 0), (4, .ifCond .eq 12, 3, 16, 0, 0, 0), (7, .aload_n 0, 1, 0, 0, 0, 0), (8, .getfield 41, 3, 5, 0, 714, 0), (11, .iconst 5, 1, 0, 0, 0, 0), (12, .invokevirtual 93, 3, 91, 2, 751, 0), (15, .ireturn, 1, 0, 0, 0, 0), (16, .aload_n 0, 1, 0, 0, 0, 0), (17, .iconst 1, 1, 0, 0, 0, 0), (18, .putfield 35, 3, 5, 6, 722, 0), (21, .aload_n 0, 1, 0, 0, 0, 0), (22, .getfield 41, 3, 5, 0, 714, 0), (25, .invokevirtual 104, 3, 87, 1, 755, 0), (28, .aload_n 0, 1, 0, 0, 0, 0), (29, .getfield 12, 3, 5, 1, 716, 0), (32, .aload_n 0, 1, 0, 0, 0, 0), (33, .getfield 41, 3, 5, 0, 714, 0), (36, .getfield 134, 3, 8, 8, 676, 0), (39, .putfield 144, 3, 4, 4, 285, 0), (42, .aload_n 0, 1, 0, 0, 0, 0), (43, .getfield 41, 3, 5, 0, 714, 0), (46, .iconst 0, 1, 0, 0, 0, 0), (47, .bipush 20, 2, 0, 0, 0, 0), (49, .invokevirtual 140, 3, 97, 3, 787, 0), (52, .ifCond .eq 16, 3, 68, 0, 0, 0), (55, .aload_n 0, 1, 0, 0, 0, 0), (56, .getfield 41, 3, 5, 0, 714, 0), (59, .getstatic 147, 3, 7, 0, 797, 0), (62, .invokevirtual 117, 3, 95, 2, 766, 0), (65, .ifCond .ne 5, 3, 70, 0, 0, 0), (68, .iconst 0, 1, 0, 0, 0, 0), (69, .ireturn, 1, 0, 0, 0, 0), (70, .aload_n 0, 1, 0, 0, 0, 0), (71, .getfield 12, 3, 5, 1, 716, 0), (74, .aload_n 0, 1, 0, 0, 0, 0), (75, .getfield 41, 3, 5, 0, 714, 0), (78, .getfield 134, 3, 8, 8, 676, 0), (81, .putfield 150, 3, 4, 5, 288, 0), (84, .aload_n 0, 1, 0, 0, 0, 0), (85, .getfield 41, 3, 5, 0, 714, 0), (88, .iconst 0, 1, 0, 0, 0, 0), (89, .sipush 200, 3, 0, 0, 0, 0), (92, .invokevirtual 140, 3, 97, 3, 787, 0), (95, .ireturn, 1, 0, 0, 0, 0)]
def x_t_X6_readEcho : List (Nat × x_Row) := [(0, .aload_n 0, 1, 0, 0, 0, 0), (1, .getfield 38, 3, 5, 7, 723, 0), (4, .ifCond .eq 12, 3, 16, 0, 0, 0), (7, .aload_n 0, 1, 0, 0, 0, 0), (8, .getfield 41, 3, 5, 0, 714, 0), (11, .iconst 5, 1, 0, 0, 0, 0), (12, .invokevirtual 93, 3, 91, 2, 751, 0), (15, .ireturn, 1, 0, 0, 0, 0), (16, .aload_n 0, 1, 0, 0, 0, 0), (17, .iconst 1, 1, 0, 0, 0, 0), (18, .putfield 38, 3, 5, 7, 723, 0), (21, .aload_n 0, 1, 0, 0, 0, 0), (22, .getfield 41, 3, 5, 0, 714, 0), (25, .invokevirtual 104, 3, 87, 1, 755, 0), (28, .aload_n 0, 1, 0, 0, 0, 0), (29, .getfield 12, 3, 5, 1, 716, 0), (32, .aload_n 0, 1, 0, 0, 0, 0), (33, .getfield 41, 3, 5, 0, 714, 0), (36, .getfield 134, 3, 8, 8, 676, 0), (39, .putfield 153, 3, 4, 6, 291, 0), (42, .aload_n 0, 1, 0, 0, 0, 0), (43, .getfield 41, 3, 5, 0, 714, 0), (46, .iconst 0, 1, 0, 0, 0, 0), (47, .bipush 9, 2, 0, 0, 0, 0), (49, .invokevirtual 140, 3, 97, 3, 787, 0), (52, .ireturn, 1, 0, 0, 0, 0)]
def x_t_X6_readShip : List (Nat × x_Row) := [(0, .aload_n 0, 1, 0, 0, 0, 0), (1, .getfield 12, 3, 5, 1, 716, 0), (4, .getfield 156, 3, 4, 7, 296, 0), (7, .getfield 160, 3, 3, 0, 232, 0), (10, .istore_n 1, 1, 0, 0, 0, 0), (11, .iload_n 1, 1, 0, 0, 0, 0), (12, .bipush 6, 2, 0, 0, 0, 0), (14, .if_icmp .lt 13, 3, 27, 0, 0, 0), (17, .aload_n 0, 1, 0, 0, 0, 0), (18, .getfield 41, 3, 5, 0, 714, 0), (21, .bipush 6, 2, 0, 0, 0, 0), (23, .invokevirtual 93, 3, 91, 2, 751, 0), (26, .ireturn, 1, 0, 0, 0, 0), (27, .aload_n 0, 1, 0, 0, 0, 0), (28, .getfield 41, 3, 5, 0, 714, 0), (31, .invokevirtual 104, 3, 87, 1, 755, 0), (34, .aload_n 0, 1, 0, 0, 0, 0), (35, .invokevirtual 111, 3, 67, 1, 756, 0), (38, .ifCond .eq 16, 3, 54, 0, 0, 0), (41, .aload_n 0, 1, 0, 0, 0, 0), (42, .getfield 41, 3, 5, 0, 714, 0), (45, .getstatic 163, 3, 8, 0, 811, 0), (48, .invokevirtual 117, 3, 95, 2, 766, 0), (51, .ifCond .ne 5, 3, 56, 0, 0, 0), (54, .iconst 0, 1, 0, 0, 0, 0), (55, .ireturn, 1, 0, 0, 0, 0), (56, .aload_n 0, 1, 0, 0, 0, 0), (57, .getfield 41, 3, 5, 0, 714, 0), (60, .invokevirtual 166, 3, 92, 1, 760, 0), (63, .ifCond .ne 12, 3, 75, 0, 0, 0), (66, .aload_n 0, 1, 0, 0, 0, 0), (67, .getfield 41, 3, 5, 0, 714, 0), (70, .iconst 2, 1, 0, 0, 0, 0), (71, .invokevirtual 93, 3, 91, 2, 751, 0), (74, .ireturn, 1, 0, 0, 0, 0), (75, .aload_n 0, 1, 0, 0, 0, 0), (76, .aload_n 0, 1, 0, 0, 0, 0), (77, .getfield 41, 3, 5, 0, 714, 0), (80, .getfield 107, 3, 8, 6, 671, 0), (83, .invokevirtual 169, 3, 68, 2, 813, 0), (86, .istore_n 2, 1, 0, 0, 0, 0), (87, .iload_n 2, 1, 0, 0, 0, 0), (88, .iconst (-1), 1, 0, 0, 0, 0), (89, .if_icmp .ne 12, 3, 101, 0, 0, 0), (92, .aload_n 0, 1, 0, 0, 0, 0), (93, .getfield 41, 3, 5, 0, 714, 0), (96, .iconst 3, 1, 0, 0, 0, 0), (97, .invokevirtual 93, 3, 91, 2, 751, 0), (100, .ireturn, 1, 0, 0, 0, 0), (101, .aload_n 0, 1, 0, 0, 0, 0), (102, .getfield 41, 3, 5, 0, 714, 0), (105, .invokevirtual 104, 3, 87, 1, 755, 0), (108, .aload_n 0, 1, 0, 0, 0, 0), (109, .getfield 12, 3, 5, 1, 716, 0), (112, .getfield 173, 3, 4, 8, 299, 0), (115, .iload_n 1, 1, 0, 0, 0, 0), (116, .iload_n 2, 1, 0, 0, 0, 0), (117, .iastore, 1, 0, 0, 0, 0), (118, .aload_n 0, 1, 0, 0, 0, 0), (119, .aload_n 0, 1, 0, 0, 0, 0), (120, .getfield 12, 3, 5, 1, 716, 0), (123, .getfield 156, 3, 4, 7, 296, 0), (126, .invokevirtual 177, 3, 66, 2, 817, 0), (129, .ifCond .ne 5, 3, 134, 0, 0, 0), (132, .iconst 0, 1, 0, 0, 0, 0), (133, .ireturn, 1, 0, 0, 0, 0), (134, .aload_n 0, 1, 0, 0, 0, 0), (135, .getfield 41, 3, 5, 0, 714, 0), (138, .getfield 50, 3, 8, 7, 673, 0), (141, .getstatic 181, 3, 9, 0, 831, 0), (144, .if_acmp .ne 23, 3, 167, 0, 0, 0), (147, .aload_n 0, 1, 0, 0, 0, 0), (148, .getfield 12, 3, 5, 1, 716, 0), (151, .getfield 156, 3, 4, 7, 296, 0), (154, .getfield 184, 3, 3, 5, 251, 0), (157, .iload_n 1, 1, 0, 0, 0, 0), (158, .iconst 1, 1, 0, 0, 0, 0), (159, .bastore, 1, 0, 0, 0, 0), (160, .aload_n 0, 1, 0, 0, 0, 0), (161, .getfield 41, 3, 5, 0, 714, 0), (164, .invokevirtual 104, 3, 87, 1, 755, 0), (167, .iconst 1, 1, 0, 0, 0, 0), (168, .ireturn, 1, 0, 0, 0, 0)]
def x_t_X6_readCart : List (Nat × x_Row) := [(0, .aload_n 0, 1, 0, 0, 0, 0), (1, .getfield 12, 3, 5, 1, 716, 0), (4, .getfield 188, 3, 4, 9, 304, 0), (7, .getfield 160, 3, 3, 0, 232, 0), (10, .bipush 6, 2, 0, 0, 0, 0), (12, .if_icmp .lt 13, 3, 25, 0, 0, 0), (15, .aload_n 0, 1, 0, 0, 0, 0), (16, .getfield 41, 3, 5, 0, 714, 0), (19, .bipush 6, 2, 0, 0, 0, 0), (21, .invokevirtual 93, 3, 91, 2, 751, 0), (24, .ireturn, 1, 0, 0, 0, 0), (25, .aload_n 0, 1, 0, 0, 0, 0), (26, .getfield 41, 3, 5, 0, 714, 0), (29, .invokevirtual 104, 3, 87, 1, 755, 0), (32, .aload_n 0, 1, 0, 0, 0, 0), (33, .invokevirtual 111, 3, 67, 1, 756, 0), (36, .ifCond .eq 21, 3, 57, 0, 0, 0), (39, .aload_n 0, 1, 0, 0, 0, 0), (40, .aload_n 0, 1, 0, 0, 0, 0), (41, .getfield 12, 3, 5, 1, 716, 0), (44, .getfield 188, 3, 4, 9, 304, 0), (47, .invokevirtual 177, 3, 66, 2, 817, 0), (50, .ifCond .eq 7, 3, 57, 0, 0, 0), (53, .iconst 1, 1, 0, 0, 0, 0), (54, .goto 4, 3, 58, 0, 0, 0), (57, .iconst 0, 1, 0, 0, 0, 0), (58, .ireturn, 1, 0, 0, 0, 0)]
def x_t_X6_readComing : List (Nat × x_Row) := [(0, .aload_n 0, 1, 0, 0, 0, 0), (1, .getfield 41, 3, 5, 0, 714, 0), (4, .getstatic 191, 3, 10, 0, 821, 0), (7, .invokevirtual 117, 3, 95, 2, 766, 0), (10, .ifCond .ne 5, 3, 15, 0, 0, 0), (13, .iconst 0, 1, 0, 0, 0, 0), (14, .ireturn, 1, 0, 0, 0, 0), (15, .aload_n 0, 1, 0, 0, 0, 0), (16, .getfield 41, 3, 5, 0, 714, 0), (19, .getfield 134, 3, 8, 8, 676, 0), (22, .istore_n 2, 1, 0, 0, 0, 0), (23, .aload_n 0, 1, 0, 0, 0, 0), (24, .getfield 41, 3, 5, 0, 714, 0), (27, .iconst 0, 1, 0, 0, 0, 0), (28, .bipush 120, 2, 0, 0, 0, 0), (30, .invokevirtual 140, 3, 97, 3, 787, 0), (33, .ifCond .eq 16, 3, 49, 0, 0, 0), (36, .aload_n 0, 1, 0, 0, 0, 0), (37, .getfield 41, 3, 5, 0, 714, 0), (40, .getstatic 194, 3, 11, 0, 823, 0), (43, .invokevirtual 117, 3, 95, 2, 766, 0), (46, .ifCond .ne 5, 3, 51, 0, 0, 0), (49, .iconst 0, 1, 0, 0, 0, 0), (50, .ireturn, 1, 0, 0, 0, 0), (51, .aload_n 0, 1, 0, 0, 0, 0), (52, .getfield 41, 3, 5, 0, 714, 0), (55, .getfield 134, 3, 8, 8, 676, 0), (58, .istore_n 3, 1, 0, 0, 0, 0), (59, .aload_n 0, 1, 0, 0, 0, 0), (60, .getfield 41, 3, 5, 0, 714, 0), (63, .iconst 1, 1, 0, 0, 0, 0), (64, .bipush 20, 2, 0, 0, 0, 0), (66, .invokevirtual 140, 3, 97, 3, 787, 0), (69, .ifCond .eq 16, 3, 85, 0, 0, 0), (72, .aload_n 0, 1, 0, 0, 0, 0), (73, .getfield 41, 3, 5, 0, 714, 0), (76, .getstatic 197, 3, 12, 0, 825, 0), (79, .invokevirtual 117, 3, 95, 2, 766, 0), (82, .ifCond .ne 5, 3, 87, 0, 0, 0), (85, .iconst 0, 1, 0, 0, 0, 0), (86, .ireturn, 1, 0, 0, 0, 0), (87, .aload_n 0, 1, 0, 0, 0, 0), (88, .getfield 41, 3, 5, 0, 714, 0), (91, .getfield 134, 3, 8, 8, 676, 0), (94, .istore 4, 2, 0, 0, 0, 0), (96, .aload_n 0, 1, 0, 0, 0, 0), (97, .getfield 41, 3, 5, 0, 714, 0), (100, .iconst 0, 1, 0, 0, 0, 0), (101, .bipush 99, 2, 0, 0, 0, 0), (103, .invokevirtual 140, 3, 97, 3, 787, 0), (106, .ifCond .ne 5, 3, 111, 0, 0, 0), (109, .iconst 0, 1, 0, 0, 0, 0), (110, .ireturn, 1, 0, 0, 0, 0), (111, .aload_n 1, 1, 0, 0, 0, 0), (112, .aload_n 1, 1, 0, 0, 0, 0), (113, .getfield 160, 3, 3, 0, 232, 0), (116, .aload_n 1, 1, 0, 0, 0, 0), (117, .getfield 160, 3, 3, 0, 232, 0), (120, .iload_n 2, 1, 0, 0, 0, 0), (121, .iload_n 3, 1, 0, 0, 0, 0), (122, .iload 4, 2, 0, 0, 0, 0), (124, .iconst 0, 1, 0, 0, 0, 0), (125, .invokevirtual 200, 3, 47, 7, 827, 0), (128, .aload_n 1, 1, 0, 0, 0, 0), (129, .dup, 1, 0, 0, 0, 0), (130, .getfield 160, 3, 3, 0, 232, 0), (133, .iconst 1, 1, 0, 0, 0, 0), (134, .iadd, 1, 0, 0, 0, 0), (135, .putfield 160, 3, 3, 0, 232, 0), (138, .iconst 1, 1, 0, 0, 0, 0), (139, .ireturn, 1, 0, 0, 0, 0)]
def x_t_X6_takeNewName : List (Nat × x_Row) := [(0, .aload_n 0, 1, 0, 0, 0, 0), (1, .getfield 41, 3, 5, 0, 714, 0), (4, .invokevirtual 166, 3, 92, 1, 760, 0), (7, .ifCond .ne 12, 3, 19, 0, 0, 0), (10, .aload_n 0, 1, 0, 0, 0, 0), (11, .getfield 41, 3, 5, 0, 714, 0), (14, .iconst 2, 1, 0, 0, 0, 0), (15, .invokevirtual 93, 3, 91, 2, 751, 0), (18, .ireturn, 1, 0, 0, 0, 0), (19, .iconst 0, 1, 0, 0, 0, 0), (20, .istore_n 1, 1, 0, 0, 0, 0), (21, .iload_n 1, 1, 0, 0, 0, 0), (22, .aload_n 0, 1, 0, 0, 0, 0), (23, .getfield 27, 3, 5, 4, 720, 0), (26, .if_icmp .ge 35, 3, 61, 0, 0, 0), (29, .aload_n 0, 1, 0, 0, 0, 0), (30, .getfield 24, 3, 5, 3, 719, 0), (33, .iload_n 1, 1, 0, 0, 0, 0), (34, .laload, 1, 0, 0, 0, 0), (35, .aload_n 0, 1, 0, 0, 0, 0), (36, .getfield 41, 3, 5, 0, 714, 0), (39, .getfield 107, 3, 8, 6, 671, 0), (42, .lcmp, 1, 0, 0, 0, 0), (43, .ifCond .ne 12, 3, 55, 0, 0, 0), (46, .aload_n 0, 1, 0, 0, 0, 0), (47, .getfield 41, 3, 5, 0, 714, 0), (50, .iconst 3, 1, 0, 0, 0, 0), (51, .invokevirtual 93, 3, 91, 2, 751, 0), (54, .ireturn, 1, 0, 0, 0, 0), (55, .iinc 1 1, 3, 0, 0, 0, 0), (58, .goto (-37), 3, 21, 0, 0, 0), (61, .aload_n 0, 1, 0, 0, 0, 0), (62, .getfield 27, 3, 5, 4, 720, 0), (65, .aload_n 0, 1, 0, 0, 0, 0), (66, .getfield 24, 3, 5, 3, 719, 0), (69, .arraylength, 1, 0, 0, 0, 0), (70, .if_icmp .ge 29, 3, 99, 0, 0, 0), (73, .aload_n 0, 1, 0, 0, 0, 0), (74, .getfield 24, 3, 5, 3, 719, 0), (77, .aload_n 0, 1, 0, 0, 0, 0), (78, .getfield 27, 3, 5, 4, 720, 0), (81, .aload_n 0, 1, 0, 0, 0, 0), (82, .getfield 41, 3, 5, 0, 714, 0), (85, .getfield 107, 3, 8, 6, 671, 0), (88, .lastore, 1, 0, 0, 0, 0), (89, .aload_n 0, 1, 0, 0, 0, 0), (90, .dup, 1, 0, 0, 0, 0), (91, .getfield 27, 3, 5, 4, 720, 0), (94, .iconst 1, 1, 0, 0, 0, 0), (95, .iadd, 1, 0, 0, 0, 0), (96, .putfield 27, 3, 5, 4, 720, 0), (99, .aload_n 0, 1, 0, 0, 0, 0), (100, .getfield 41, 3, 5, 0, 714, 0), (103, .invokevirtual 104, 3, 87, 1, 755, 0), (106, .iconst 1, 1, 0, 0, 0, 0), (107, .ireturn, 1, 0, 0, 0, 0)]
def x_t_X6_portNamed : List (Nat × x_Row) := [(0, .iconst 0, 1, 0, 0, 0, 0), (1, .istore_n 3, 1, 0, 0, 0, 0), (2, .iload_n 3, 1, 0, 0, 0, 0), (3, .aload_n 0, 1, 0, 0, 0, 0), (4, .getfield 12, 3, 5, 1, 716, 0), (7, .getfield 101, 3, 4, 0, 272, 0), (10, .if_icmp .ge 22, 3, 32, 0, 0, 0), (13, .aload_n 0, 1, 0, 0, 0, 0), (14, .getfield 18, 3, 5, 2, 718, 0), (17, .iload_n 3, 1, 0, 0, 0, 0), (18, .laload, 1, 0, 0, 0, 0), (19, .lload_n 1, 1, 0, 0, 0, 0), (20, .lcmp, 1, 0, 0, 0, 0), (21, .ifCond .ne 5, 3, 26, 0, 0, 0), (24, .iload_n 3, 1, 0, 0, 0, 0), (25, .ireturn, 1, 0, 0, 0, 0), (26, .iinc 3 1, 3, 0, 0, 0, 0), (29, .goto (-27), 3, 2, 0, 0, 0), (32, .iconst (-1), 1, 0, 0, 0, 0), (33, .ireturn, 1, 0, 0, 0, 0)]
def x_t_X7_init : List (Nat × x_Row) := [(0, .aload_n 0, 1, 0, 0, 0, 0), (1, .invokespecial 1, 3, 1000, 0, 865, 0), (4, .aload_n 0, 1, 0, 0, 0, 0), (5, .iconst 0, 1, 0, 0, 0, 0), (6, .putfield 7, 3, 6, 0, 869, 0), (9, .aload_n 0, 1, 0, 0, 0, 0), (10, .bipush 12, 2, 0, 0, 0, 0), (12, .newarray .int, 2, 0, 0, 0, 0), (14, .putfield 13, 3, 6, 1, 872, 0), (17, .aload_n 0, 1, 0, 0, 0, 0), (18, .bipush 12, 2, 0, 0, 0, 0), (20, .newarray .int, 2, 0, 0, 0, 0), (22, .putfield 17, 3, 6, 2, 873, 0), (25, .aload_n 0, 1, 0, 0, 0, 0), (26, .iconst 0, 1, 0, 0, 0, 0), (27, .putfield 20, 3, 6, 3, 874, 0), (30, .iload_n 1, 1, 0, 0, 0, 0), (31, .iconst 0, 1, 0, 0, 0, 0), (32, .invokestatic 23, 3, 1002, 0, 866, 0), (35, .istore_n 2, 1, 0, 0, 0, 0), (36, .aload_n 0, 1, 0, 0, 0, 0), (37, .iload_n 2, 1, 0, 0, 0, 0), (38, .newarray .int, 2, 0, 0, 0, 0), (40, .putfield 29, 3, 6, 4, 875, 0), (43, .aload_n 0, 1, 0, 0, 0, 0), (44, .iload_n 2, 1, 0, 0, 0, 0), (45, .newarray .int, 2, 0, 0, 0, 0), (47, .putfield 32, 3, 6, 5, 876, 0), (50, .aload_n 0, 1, 0, 0, 0, 0), (51, .iload_n 2, 1, 0, 0, 0, 0), (52, .newarray .int, 2, 0, 0, 0, 0), (54, .putfield 35, 3, 6, 6, 877, 0), (57, .return_, 1, 0, 0, 0, 0)]
def x_t_X7_addStep : List (Nat × x_Row) := [(0, .aload_n 0, 1, 0, 0, 0, 0), (1, .getfield 20, 3, 6, 3, 874, 0), (4, .aload_n 0, 1, 0, 0, 0, 0), (5, .getfield 29, 3, 6, 4, 875, 0), (8, .arraylength, 1, 0, 0, 0, 0), (9, .if_icmp .ge 43, 3, 52, 0, 0, 0), (12, .aload_n 0, 1, 0, 0, 0, 0), (13, .getfield 29, 3, 6, 4, 875, 0), (16, .aload_n 0, 1, 0, 0, 0, 0), (17, .getfield 20, 3, 6, 3, 874, 0), (20, .iload_n 1, 1, 0, 0, 0, 0), (21, .iastore, 1, 0, 0, 0, 0), (22, .aload_n 0, 1, 0, 0, 0, 0), (23, .getfield 32, 3, 6, 5, 876, 0), (26, .aload_n 0, 1, 0, 0, 0, 0), (27, .getfield 20, 3, 6, 3, 874, 0), (30, .iload_n 2, 1, 0, 0, 0, 0), (31, .iastore, 1, 0, 0, 0, 0), (32, .aload_n 0, 1, 0, 0, 0, 0), (33, .getfield 35, 3, 6, 6, 877, 0), (36, .aload_n 0, 1, 0, 0, 0, 0), (37, .getfield 20, 3, 6, 3, 874, 0), (40, .iload_n 3, 1, 0, 0, 0, 0), (41, .iastore, 1, 0, 0, 0, 0), (42, .aload_n 0, 1, 0, 0, 0, 0), (43, .dup, 1, 0, 0, 0, 0), (44, .getfield 20, 3, 6, 3, 874, 0), (47, .iconst 1, 1, 0, 0, 0, 0), (48, .iadd, 1, 0, 0, 0, 0), (49, .putfield 20, 3, 6, 3, 874, 0), (52, .return_, 1, 0, 0, 0, 0)]
def x_t_X7_endRule : List (Nat × x_Row) := [(0, .aload_n 0, 1, 0, 0, 0, 0), (1, .getfield 7, 3, 6, 0, 869, 0), (4, .bipush 12, 2, 0, 0, 0, 0), (6, .if_icmp .ge 36, 3, 42, 0, 0, 0), (9, .aload_n 0, 1, 0, 0, 0, 0), (10, .getfield 13, 3, 6, 1, 872, 0), (13, .aload_n 0, 1, 0, 0, 0, 0), (14, .getfield 7, 3, 6, 0, 869, 0), (17, .iload_n 1, 1, 0, 0, 0, 0), (18, .iastore, 1, 0, 0, 0, 0), (19, .aload_n 0, 1, 0, 0, 0, 0), (20, .getfield 17, 3, 6, 2, 873, 0), (23, .aload_n 0, 1, 0, 0, 0, 0), (24, .getfield 7, 3, 6, 0, 869, 0), (27, .aload_n 0, 1, 0, 0, 0, 0), (28, .getfield 20, 3, 6, 3, 874, 0), (31, .iastore, 1, 0, 0, 0, 0), (32, .aload_n 0, 1, 0, 0, 0, 0), (33, .dup, 1, 0, 0, 0, 0), (34, .getfield 7, 3, 6, 0, 869, 0), (37, .iconst 1, 1, 0, 0, 0, 0), (38, .iadd, 1, 0, 0, 0, 0), (39, .putfield 7, 3, 6, 0, 869, 0), (42, .return_, 1, 0, 0, 0, 0)]
def x_t_X7_actBy : List (Nat × x_Row) := [(0, .iconst 0, 1, 0, 0, 0, 0), (1, .istore_n 2, 1, 0, 0, 0, 0), (2, .iconst 0, 1, 0, 0, 0, 0), (3, .istore_n 3, 1, 0, 0, 0, 0), (4, .iload_n 3, 1, 0, 0, 0, 0), (5, .aload_n 0, 1, 0, 0, 0, 0), (6, .getfield 7, 3, 6, 0, 869, 0), (9, .if_icmp .ge 38, 3, 47, 0, 0, 0), (12, .aload_n 0, 1, 0, 0, 0, 0), (13, .iload_n 2, 1, 0, 0, 0, 0), (14, .aload_n 0, 1, 0, 0, 0, 0), (15, .getfield 17, 3, 6, 2, 873, 0), (18, .iload_n 3, 1, 0, 0, 0, 0), (19, .iaload, 1, 0, 0, 0, 0), (20, .aload_n 1, 1, 0, 0, 0, 0), (21, .invokevirtual 38, 3, 73, 4, 1387, 0), (24, .ifCond .eq 10, 3, 34, 0, 0, 0), (27, .aload_n 0, 1, 0, 0, 0, 0), (28, .getfield 13, 3, 6, 1, 872, 0), (31, .iload_n 3, 1, 0, 0, 0, 0), (32, .iaload, 1, 0, 0, 0, 0), (33, .ireturn, 1, 0, 0, 0, 0), (34, .aload_n 0, 1, 0, 0, 0, 0), (35, .getfield 17, 3, 6, 2, 873, 0), (38, .iload_n 3, 1, 0, 0, 0, 0), (39, .iaload, 1, 0, 0, 0, 0), (40, .istore_n 2, 1, 0, 0, 0, 0), (41, .iinc 3 1, 3, 0, 0, 0, 0), (44, .goto (-40), 3, 4, 0, 0, 0), (47, .iconst 2, 1, 0, 0, 0, 0), (48, .ireturn, 1, 0, 0, 0, 0)]
def x_t_X7_holds : List (Nat × x_Row) := [(0, .lconst 0, 1, 0, 0, 0, 0), (1, .lstore 4, 2, 0, 0, 0, 0), (3, .iload_n 1, 1, 0, 0, 0, 0), (4, .istore 6, 2, 0, 0, 0, 0), (6, .iload 6, 2, 0, 0, 0, 0), (8, .iload_n 2, 1, 0, 0, 0, 0), (9, .if_icmp .ge 115, 3, 124, 0, 0, 0), (12, .iload 6, 2, 0, 0, 0, 0), (14, .aload_n 0, 1, 0, 0, 0, 0), (15, .getfield 20, 3, 6, 3, 874, 0), (18, .if_icmp .ge 106, 3, 124, 0, 0, 0), (21, .lload 4, 2, 0, 0, 0, 0), (23, .iconst 1, 1, 0, 0, 0, 0), (24, .lshr, 1, 0, 0, 0, 0), (25, .lstore 7, 2, 0, 0, 0, 0), (27, .aload_n 0, 1, 0, 0, 0, 0), (28, .getfield 29, 3, 6, 4, 875, 0), (31, .iload 6, 2, 0, 0, 0, 0), (33, .iaload, 1, 0, 0, 0, 0), (34, .tableswitch 61 3 5 #[26, 35, 49], 26, 0, 0, 0, 0), (60, .lload 4, 2, 0, 0, 0, 0), (62, .lconst 1, 1, 0, 0, 0, 0), (63, .lxor, 1, 0, 0, 0, 0), (64, .lstore 4, 2, 0, 0, 0, 0), (66, .goto 52, 3, 118, 0, 0, 0), (69, .lload 7, 2, 0, 0, 0, 0), (71, .lload 4, 2, 0, 0, 0, 0), (73, .ldc2_w 42, 3, 0, 0, 1391, -2), (76, .lor, 1, 0, 0, 0, 0), (77, .land, 1, 0, 0, 0, 0), (78, .lstore 4, 2, 0, 0, 0, 0), (80, .goto 38, 3, 118, 0, 0, 0), (83, .lload 7, 2, 0, 0, 0, 0), (85, .lload 4, 2, 0, 0, 0, 0), (87, .lconst 1, 1, 0, 0, 0, 0), (88, .land, 1, 0, 0, 0, 0), (89, .lor, 1, 0, 0, 0, 0), (90, .lstore 4, 2, 0, 0, 0, 0), (92, .goto 26, 3, 118, 0, 0, 0), (95, .lload 4, 2, 0, 0, 0, 0), (97, .iconst 1, 1, 0, 0, 0, 0), (98, .lshl, 1, 0, 0, 0, 0), (99, .aload_n 0, 1, 0, 0, 0, 0), (100, .iload 6, 2, 0, 0, 0, 0), (102, .aload_n 3, 1, 0, 0, 0, 0), (103, .invokevirtual 44, 3, 74, 3, 1392, 0), (106, .ifCond .eq 7, 3, 113, 0, 0, 0), (109, .iconst 1, 1, 0, 0, 0, 0), (110, .goto 4, 3, 114, 0, 0, 0), (113, .iconst 0, 1, 0, 0, 0, 0), (114, .i2l, 1, 0, 0, 0, 0), (115, .lor, 1, 0, 0, 0, 0), (116, .lstore 4, 2, 0, 0, 0, 0), (118, .iinc 6 1, 3, 0, 0, 0, 0), (121, .goto (-115), 3, 6, 0, 0, 0), (124, .lload 4, 2, 0, 0, 0, 0), (126, .lconst 1, 1, 0, 0, 0, 0), (127, .land, 1, 0, 0, 0, 0), (128, .lconst 1, 1, 0, 0, 0, 0), (129, .lcmp, 1, 0, 0, 0, 0), (130, .ifCond .ne 7, 3, 137, 0, 0, 0), (133, .iconst 1, 1, 0, 0, 0, 0), (134, .goto 4, 3, 138, 0, 0, 0), (137, .iconst 0, 1, 0, 0, 0, 0), (138, .ireturn, 1, 0, 0, 0, 0)]
def x_t_X7_compares : List (Nat × x_Row) := [(0, .iload_n 1, 1, 0, 0, 0, 0), (1, .ifCond .lt 31, 3, 32, 0, 0, 0), (4, .iload_n 1, 1, 0, 0, 0, 0), (5, .aload_n 0, 1, 0, 0, 0, 0), (6, .getfield 20, 3, 6, 3, 874, 0), (9, .if_icmp .ge 23, 3, 32, 0, 0, 0), (12, .aload_n 0, 1, 0, 0, 0, 0), (13, .getfield 32, 3, 6, 5, 876, 0), (16, .iload_n 1, 1, 0, 0, 0, 0), (17, .iaload, 1, 0, 0, 0, 0), (18, .ifCond .lt 14, 3, 32, 0, 0, 0), (21, .aload_n 0, 1, 0, 0, 0, 0), (22, .getfield 32, 3, 6, 5, 876, 0), (25, .iload_n 1, 1, 0, 0, 0, 0), (26, .iaload, 1, 0, 0, 0, 0), (27, .aload_n 2, 1, 0, 0, 0, 0), (28, .arraylength, 1, 0, 0, 0, 0), (29, .if_icmp .lt 5, 3, 34, 0, 0, 0), (32, .iconst 0, 1, 0, 0, 0, 0), (33, .ireturn, 1, 0, 0, 0, 0), (34, .aload_n 2, 1, 0, 0, 0, 0), (35, .aload_n 0, 1, 0, 0, 0, 0), (36, .getfield 32, 3, 6, 5, 876, 0), (39, .iload_n 1, 1, 0, 0, 0, 0), (40, .iaload, 1, 0, 0, 0, 0), (41, .iaload, 1, 0, 0, 0, 0), (42, .istore_n 3, 1, 0, 0, 0, 0), (43, .aload_n 0, 1, 0, 0, 0, 0), (44, .getfield 29, 3, 6, 4, 875, 0), (47, .iload_n 1, 1, 0, 0, 0, 0), (48, .iaload, 1, 0, 0, 0, 0), (49, .lookupswitch 59 #[(0, 27), (1, 43)], 27, 0, 0, 0, 0), (76, .iload_n 3, 1, 0, 0, 0, 0), (77, .aload_n 0, 1, 0, 0, 0, 0), (78, .getfield 35, 3, 6, 6, 877, 0), (81, .iload_n 1, 1, 0, 0, 0, 0), (82, .iaload, 1, 0, 0, 0, 0), (83, .if_icmp .ge 7, 3, 90, 0, 0, 0), (86, .iconst 1, 1, 0, 0, 0, 0), (87, .goto 4, 3, 91, 0, 0, 0), (90, .iconst 0, 1, 0, 0, 0, 0), (91, .ireturn, 1, 0, 0, 0, 0), (92, .iload_n 3, 1, 0, 0, 0, 0), (93, .aload_n 0, 1, 0, 0, 0, 0), (94, .getfield 35, 3, 6, 6, 877, 0), (97, .iload_n 1, 1, 0, 0, 0, 0), (98, .iaload, 1, 0, 0, 0, 0), (99, .if_icmp .le 7, 3, 106, 0, 0, 0), (102, .iconst 1, 1, 0, 0, 0, 0), (103, .goto 4, 3, 107, 0, 0, 0), (106, .iconst 0, 1, 0, 0, 0, 0), (107, .ireturn, 1, 0, 0, 0, 0), (108, .iload_n 3, 1, 0, 0, 0, 0), (109, .aload_n 0, 1, 0, 0, 0, 0), (110, .getfield 35, 3, 6, 6, 877, 0), (113, .iload_n 1, 1, 0, 0, 0, 0), (114, .iaload, 1, 0, 0, 0, 0), (115, .if_icmp .ne 7, 3, 122, 0, 0, 0), (118, .iconst 1, 1, 0, 0, 0, 0), (119, .goto 4, 3, 123, 0, 0, 0), (122, .iconst 0, 1, 0, 0, 0, 0), (123, .ireturn, 1, 0, 0, 0, 0)]
def x_t_X8_init : List (Nat × x_Row) := [(0, .aload_n 0, 1, 0, 0, 0, 0), (1, .invokespecial 3, 3, 1000, 0, 896, 0), (4, .aload_n 0, 1, 0, 0, 0, 0), (5, .iconst 0, 1, 0, 0, 0, 0), (6, .putfield 9, 3, 7, 2, 901, 0), (9, .aload_n 0, 1, 0, 0, 0, 0), (10, .aload_n 1, 1, 0, 0, 0, 0), (11, .putfield 15, 3, 7, 0, 897, 0), (14, .aload_n 0, 1, 0, 0, 0, 0), (15, .aload_n 2, 1, 0, 0, 0, 0), (16, .putfield 19, 3, 7, 1, 899, 0), (19, .return_, 1, 0, 0, 0, 0)]
def x_t_X8_readAll : List (Nat × x_Row) := [(0, .iconst 0, 1, 0, 0, 0, 0), (1, .istore_n 1, 1, 0, 0, 0, 0), (2, .iload_n 1, 1, 0, 0, 0, 0), (3, .bipush 12, 2, 0, 0, 0, 0), (5, .if_icmp .gt 29, 3, 34, 0, 0, 0), (8, .aload_n 0, 1, 0, 0, 0, 0), (9, .getfield 15, 3, 7, 0, 897, 0), (12, .getfield 25, 3, 8, 3, 666, 0), (15, .iconst 3, 1, 0, 0, 0, 0), (16, .if_icmp .eq 18, 3, 34, 0, 0, 0), (19, .aload_n 0, 1, 0, 0, 0, 0), (20, .invokevirtual 30, 3, 77, 1, 913, 0), (23, .ifCond .ne 5, 3, 28, 0, 0, 0), (26, .iconst 0, 1, 0, 0, 0, 0), (27, .ireturn, 1, 0, 0, 0, 0), (28, .iinc 1 1, 3, 0, 0, 0, 0), (31, .goto (-29), 3, 2, 0, 0, 0), (34, .iconst 1, 1, 0, 0, 0, 0), (35, .ireturn, 1, 0, 0, 0, 0)]
def x_t_X8_readRule : List (Nat × x_Row) := [(0, .aload_n 0, 1, 0, 0, 0, 0), (1, .getfield 15, 3, 7, 0, 897, 0), (4, .getfield 34, 3, 8, 7, 674, 0), (7, .getstatic 38, 3, 13, 0, 917, 0), (10, .if_acmp .ne 25, 3, 35, 0, 0, 0), (13, .aload_n 0, 1, 0, 0, 0, 0), (14, .getfield 19, 3, 7, 1, 899, 0), (17, .getfield 43, 3, 6, 0, 870, 0), (20, .bipush 12, 2, 0, 0, 0, 0), (22, .if_icmp .lt 13, 3, 35, 0, 0, 0), (25, .aload_n 0, 1, 0, 0, 0, 0), (26, .getfield 15, 3, 7, 0, 897, 0), (29, .bipush 6, 2, 0, 0, 0, 0), (31, .invokevirtual 46, 3, 91, 2, 919, 0), (34, .ireturn, 1, 0, 0, 0, 0), (35, .aload_n 0, 1, 0, 0, 0, 0), (36, .getfield 15, 3, 7, 0, 897, 0), (39, .getstatic 38, 3, 13, 0, 917, 0), (42, .invokevirtual 50, 3, 95, 2, 920, 0), (45, .ifCond .eq 24, 3, 69, 0, 0, 0), (48, .aload_n 0, 1, 0, 0, 0, 0), (49, .iconst 0, 1, 0, 0, 0, 0), (50, .invokevirtual 54, 3, 79, 2, 921, 0), (53, .ifCond .eq 16, 3, 69, 0, 0, 0), (56, .aload_n 0, 1, 0, 0, 0, 0), (57, .getfield 15, 3, 7, 0, 897, 0), (60, .getstatic 57, 3, 14, 0, 977, 0), (63, .invokevirtual 50, 3, 95, 2, 920, 0), (66, .ifCond .ne 5, 3, 71, 0, 0, 0), (69, .iconst 0, 1, 0, 0, 0, 0), (70, .ireturn, 1, 0, 0, 0, 0), (71, .aload_n 0, 1, 0, 0, 0, 0), (72, .invokevirtual 60, 3, 78, 1, 979, 0), (75, .istore_n 1, 1, 0, 0, 0, 0), (76, .iload_n 1, 1, 0, 0, 0, 0), (77, .iconst (-1), 1, 0, 0, 0, 0), (78, .if_icmp .ne 12, 3, 90, 0, 0, 0), (81, .aload_n 0, 1, 0, 0, 0, 0), (82, .getfield 15, 3, 7, 0, 897, 0), (85, .iconst 2, 1, 0, 0, 0, 0), (86, .invokevirtual 46, 3, 91, 2, 919, 0), (89, .ireturn, 1, 0, 0, 0, 0), (90, .aload_n 0, 1, 0, 0, 0, 0), (91, .getfield 15, 3, 7, 0, 897, 0), (94, .invokevirtual 64, 3, 87, 1, 958, 0), (97, .aload_n 0, 1, 0, 0, 0, 0), (98, .getfield 19, 3, 7, 1, 899, 0), (101, .iload_n 1, 1, 0, 0, 0, 0), (102, .invokevirtual 67, 3, 71, 2, 985, 0), (105, .aload_n 0, 1, 0, 0, 0, 0), (106, .getfield 15, 3, 7, 0, 897, 0), (109, .bipush 59, 2, 0, 0, 0, 0), (111, .invokevirtual 71, 3, 96, 2, 959, 0), (114, .ireturn, 1, 0, 0, 0, 0)]
def x_t_X8_actTold : List (Nat × x_Row) := [(0, .aload_n 0, 1, 0, 0, 0, 0), (1, .getfield 15, 3, 7, 0, 897, 0), (4, .getfield 34, 3, 8, 7, 674, 0), (7, .getstatic 75, 3, 15, 0, 940, 0), (10, .if_acmp .ne 5, 3, 15, 0, 0, 0), (13, .iconst 0, 1, 0, 0, 0, 0), (14, .ireturn, 1, 0, 0, 0, 0), (15, .aload_n 0, 1, 0, 0, 0, 0), (16, .getfield 15, 3, 7, 0, 897, 0), (19, .getfield 34, 3, 8, 7, 674, 0), (22, .getstatic 78, 3, 16, 0, 942, 0), (25, .if_acmp .ne 5, 3, 30, 0, 0, 0), (28, .iconst 1, 1, 0, 0, 0, 0), (29, .ireturn, 1, 0, 0, 0, 0), (30, .aload_n 0, 1, 0, 0, 0, 0), (31, .getfield 15, 3, 7, 0, 897, 0), (34, .getfield 34, 3, 8, 7, 674, 0), (37, .getstatic 81, 3, 17, 0, 983, 0), (40, .if_acmp .ne 7, 3, 47, 0, 0, 0), (43, .iconst 2, 1, 0, 0, 0, 0), (44, .goto 4, 3, 48, 0, 0, 0), (47, .iconst (-1), 1, 0, 0, 0, 0), (48, .ireturn, 1, 0, 0, 0, 0)]
def x_t_X8_readEither : List (Nat × x_Row) := [(0, .aload_n 0, 1, 0, 0, 0, 0), (1, .iload_n 1, 1, 0, 0, 0, 0), (2, .invokevirtual 84, 3, 80, 2, 925, 0), (5, .ifCond .ne 5, 3, 10, 0, 0, 0), (8, .iconst 0, 1, 0, 0, 0, 0), (9, .ireturn, 1, 0, 0, 0, 0), (10, .iconst 0, 1, 0, 0, 0, 0), (11, .istore_n 2, 1, 0, 0, 0, 0), (12, .iload_n 2, 1, 0, 0, 0, 0), (13, .sipush 300, 3, 0, 0, 0, 0), (16, .if_icmp .ge 49, 3, 65, 0, 0, 0), (19, .aload_n 0, 1, 0, 0, 0, 0), (20, .getfield 15, 3, 7, 0, 897, 0), (23, .getfield 34, 3, 8, 7, 674, 0), (26, .getstatic 87, 3, 18, 0, 975, 0), (29, .if_acmp .ne 36, 3, 65, 0, 0, 0), (32, .aload_n 0, 1, 0, 0, 0, 0), (33, .getfield 15, 3, 7, 0, 897, 0), (36, .invokevirtual 64, 3, 87, 1, 958, 0), (39, .aload_n 0, 1, 0, 0, 0, 0), (40, .iload_n 1, 1, 0, 0, 0, 0), (41, .invokevirtual 84, 3, 80, 2, 925, 0), (44, .ifCond .ne 5, 3, 49, 0, 0, 0), (47, .iconst 0, 1, 0, 0, 0, 0), (48, .ireturn, 1, 0, 0, 0, 0), (49, .aload_n 0, 1, 0, 0, 0, 0), (50, .getfield 19, 3, 7, 1, 899, 0), (53, .iconst 5, 1, 0, 0, 0, 0), (54, .iconst 0, 1, 0, 0, 0, 0), (55, .iconst 0, 1, 0, 0, 0, 0), (56, .invokevirtual 90, 3, 70, 4, 960, 0), (59, .iinc 2 1, 3, 0, 0, 0, 0), (62, .goto (-50), 3, 12, 0, 0, 0), (65, .iconst 1, 1, 0, 0, 0, 0), (66, .ireturn, 1, 0, 0, 0, 0)]
def x_t_X8_readBoth : List (Nat × x_Row) := [(0, .aload_n 0, 1, 0, 0, 0, 0), (1, .iload_n 1, 1, 0, 0, 0, 0), (2, .invokevirtual 94, 3, 81, 2, 929, 0), (5, .ifCond .ne 5, 3, 10, 0, 0, 0), (8, .iconst 0, 1, 0, 0, 0, 0), (9, .ireturn, 1, 0, 0, 0, 0), (10, .iconst 0, 1, 0, 0, 0, 0), (11, .istore_n 2, 1, 0, 0, 0, 0), (12, .iload_n 2, 1, 0, 0, 0, 0), (13, .sipush 300, 3, 0, 0, 0, 0), (16, .if_icmp .ge 49, 3, 65, 0, 0, 0), (19, .aload_n 0, 1, 0, 0, 0, 0), (20, .getfield 15, 3, 7, 0, 897, 0), (23, .getfield 34, 3, 8, 7, 674, 0), (26, .getstatic 97, 3, 19, 0, 973, 0), (29, .if_acmp .ne 36, 3, 65, 0, 0, 0), (32, .aload_n 0, 1, 0, 0, 0, 0), (33, .getfield 15, 3, 7, 0, 897, 0), (36, .invokevirtual 64, 3, 87, 1, 958, 0), (39, .aload_n 0, 1, 0, 0, 0, 0), (40, .iload_n 1, 1, 0, 0, 0, 0), (41, .invokevirtual 94, 3, 81, 2, 929, 0), (44, .ifCond .ne 5, 3, 49, 0, 0, 0), (47, .iconst 0, 1, 0, 0, 0, 0), (48, .ireturn, 1, 0, 0, 0, 0), (49, .aload_n 0, 1, 0, 0, 0, 0), (50, .getfield 19, 3, 7, 1, 899, 0), (53, .iconst 4, 1, 0, 0, 0, 0), (54, .iconst 0, 1, 0, 0, 0, 0), (55, .iconst 0, 1, 0, 0, 0, 0), (56, .invokevirtual 90, 3, 70, 4, 960, 0), (59, .iinc 2 1, 3, 0, 0, 0, 0), (62, .goto (-50), 3, 12, 0, 0, 0), (65, .iconst 1, 1, 0, 0, 0, 0), (66, .ireturn, 1, 0, 0, 0, 0)]
def x_t_X8_readOne : List (Nat × x_Row) := [(0, .aload_n 0, 1, 0, 0, 0, 0), (1, .getfield 15, 3, 7, 0, 897, 0), (4, .getfield 34, 3, 8, 7, 674, 0), (7, .getstatic 100, 3, 20, 0, 933, 0), (10, .if_acmp .eq 15, 3, 25, 0, 0, 0), (13, .aload_n 0, 1, 0, 0, 0, 0), (14, .getfield 15, 3, 7, 0, 897, 0), (17, .bipush 40, 2, 0, 0, 0, 0), (19, .invokevirtual 103, 3, 94, 2, 935, 0), (22, .ifCond .eq 7, 3, 29, 0, 0, 0), (25, .iconst 1, 1, 0, 0, 0, 0), (26, .goto 4, 3, 30, 0, 0, 0), (29, .iconst 0, 1, 0, 0, 0, 0), (30, .istore_n 2, 1, 0, 0, 0, 0), (31, .aload_n 0, 1, 0, 0, 0, 0), (32, .invokevirtual 106, 3, 83, 1, 936, 0), (35, .istore_n 3, 1, 0, 0, 0, 0), (36, .iload_n 2, 1, 0, 0, 0, 0), (37, .ifCond .ne 17, 3, 54, 0, 0, 0), (40, .iload_n 3, 1, 0, 0, 0, 0), (41, .iconst (-1), 1, 0, 0, 0, 0), (42, .if_icmp .ne 12, 3, 54, 0, 0, 0), (45, .aload_n 0, 1, 0, 0, 0, 0), (46, .getfield 15, 3, 7, 0, 897, 0), (49, .iconst 2, 1, 0, 0, 0, 0), (50, .invokevirtual 46, 3, 91, 2, 919, 0), (53, .ireturn, 1, 0, 0, 0, 0), (54, .iload_n 2, 1, 0, 0, 0, 0), (55, .ifCond .ne 22, 3, 77, 0, 0, 0), (58, .aload_n 0, 1, 0, 0, 0, 0), (59, .getfield 9, 3, 7, 2, 901, 0), (62, .bipush 24, 2, 0, 0, 0, 0), (64, .if_icmp .lt 13, 3, 77, 0, 0, 0), (67, .aload_n 0, 1, 0, 0, 0, 0), (68, .getfield 15, 3, 7, 0, 897, 0), (71, .bipush 6, 2, 0, 0, 0, 0), (73, .invokevirtual 46, 3, 91, 2, 919, 0), (76, .ireturn, 1, 0, 0, 0, 0), (77, .iload_n 1, 1, 0, 0, 0, 0), (78, .bipush 6, 2, 0, 0, 0, 0), (80, .if_icmp .lt 13, 3, 93, 0, 0, 0), (83, .aload_n 0, 1, 0, 0, 0, 0), (84, .getfield 15, 3, 7, 0, 897, 0), (87, .bipush 7, 2, 0, 0, 0, 0), (89, .invokevirtual 46, 3, 91, 2, 919, 0), (92, .ireturn, 1, 0, 0, 0, 0), (93, .iload_n 2, 1, 0, 0, 0, 0), (94, .ifCond .eq 11, 3, 105, 0, 0, 0), (97, .aload_n 0, 1, 0, 0, 0, 0), (98, .iload_n 1, 1, 0, 0, 0, 0), (99, .invokevirtual 109, 3, 82, 2, 954, 0), (102, .goto 8, 3, 110, 0, 0, 0), (105, .aload_n 0, 1, 0, 0, 0, 0), (106, .iload_n 3, 1, 0, 0, 0, 0), (107, .invokevirtual 112, 3, 84, 2, 964, 0), (110, .ireturn, 1, 0, 0, 0, 0)]
def x_t_X8_readNested : List (Nat × x_Row) := [(0, .aload_n 0, 1, 0, 0, 0, 0), (1, .getfield 15, 3, 7, 0, 897, 0), (4, .getfield 34, 3, 8, 7, 674, 0), (7, .getstatic 100, 3, 20, 0, 933, 0), (10, .if_acmp .ne 7, 3, 17, 0, 0, 0), (13, .iconst 1, 1, 0, 0, 0, 0), (14, .goto 4, 3, 18, 0, 0, 0), (17, .iconst 0, 1, 0, 0, 0, 0), (18, .istore_n 2, 1, 0, 0, 0, 0), (19, .aload_n 0, 1, 0, 0, 0, 0), (20, .getfield 15, 3, 7, 0, 897, 0), (23, .invokevirtual 64, 3, 87, 1, 958, 0), (26, .iload_n 2, 1, 0, 0, 0, 0), (27, .ifCond .ne 31, 3, 58, 0, 0, 0), (30, .aload_n 0, 1, 0, 0, 0, 0), (31, .iload_n 1, 1, 0, 0, 0, 0), (32, .iconst 1, 1, 0, 0, 0, 0), (33, .iadd, 1, 0, 0, 0, 0), (34, .invokevirtual 54, 3, 79, 2, 921, 0), (37, .ifCond .eq 19, 3, 56, 0, 0, 0), (40, .aload_n 0, 1, 0, 0, 0, 0), (41, .getfield 15, 3, 7, 0, 897, 0), (44, .bipush 41, 2, 0, 0, 0, 0), (46, .invokevirtual 71, 3, 96, 2, 959, 0), (49, .ifCond .eq 7, 3, 56, 0, 0, 0), (52, .iconst 1, 1, 0, 0, 0, 0), (53, .goto 4, 3, 57, 0, 0, 0), (56, .iconst 0, 1, 0, 0, 0, 0), (57, .ireturn, 1, 0, 0, 0, 0), (58, .aload_n 0, 1, 0, 0, 0, 0), (59, .iload_n 1, 1, 0, 0, 0, 0), (60, .iconst 1, 1, 0, 0, 0, 0), (61, .iadd, 1, 0, 0, 0, 0), (62, .invokevirtual 94, 3, 81, 2, 929, 0), (65, .ifCond .ne 5, 3, 70, 0, 0, 0), (68, .iconst 0, 1, 0, 0, 0, 0), (69, .ireturn, 1, 0, 0, 0, 0), (70, .aload_n 0, 1, 0, 0, 0, 0), (71, .getfield 19, 3, 7, 1, 899, 0), (74, .iconst 3, 1, 0, 0, 0, 0), (75, .iconst 0, 1, 0, 0, 0, 0), (76, .iconst 0, 1, 0, 0, 0, 0), (77, .invokevirtual 90, 3, 70, 4, 960, 0), (80, .iconst 1, 1, 0, 0, 0, 0), (81, .ireturn, 1, 0, 0, 0, 0)]
def x_t_X8_factTold : List (Nat × x_Row) := [(0, .aload_n 0, 1, 0, 0, 0, 0), (1, .getfield 15, 3, 7, 0, 897, 0), (4, .getfield 34, 3, 8, 7, 674, 0), (7, .getstatic 75, 3, 15, 0, 940, 0), (10, .if_acmp .eq 16, 3, 26, 0, 0, 0), (13, .aload_n 0, 1, 0, 0, 0, 0), (14, .getfield 15, 3, 7, 0, 897, 0), (17, .getfield 34, 3, 8, 7, 674, 0), (20, .getstatic 78, 3, 16, 0, 942, 0), (23, .if_acmp .ne 5, 3, 28, 0, 0, 0), (26, .iconst 0, 1, 0, 0, 0, 0), (27, .ireturn, 1, 0, 0, 0, 0), (28, .aload_n 0, 1, 0, 0, 0, 0), (29, .getfield 15, 3, 7, 0, 897, 0), (32, .getfield 34, 3, 8, 7, 674, 0), (35, .getstatic 115, 3, 21, 0, 944, 0), (38, .if_acmp .ne 5, 3, 43, 0, 0, 0), (41, .iconst 1, 1, 0, 0, 0, 0), (42, .ireturn, 1, 0, 0, 0, 0), (43, .aload_n 0, 1, 0, 0, 0, 0), (44, .getfield 15, 3, 7, 0, 897, 0), (47, .getfield 34, 3, 8, 7, 674, 0), (50, .getstatic 118, 3, 22, 0, 946, 0), (53, .if_acmp .ne 5, 3, 58, 0, 0, 0), (56, .iconst 2, 1, 0, 0, 0, 0), (57, .ireturn, 1, 0, 0, 0, 0), (58, .aload_n 0, 1, 0, 0, 0, 0), (59, .getfield 15, 3, 7, 0, 897, 0), (62, .getfield 34, 3, 8, 7, 674, 0), (65, .getstatic 121, 3, 23, 0, 948, 0), (68, .if_acmp .ne 5, 3, 73, 0, 0, 0), (71, .iconst 3, 1, 0, 0, 0, 0), (72, .ireturn, 1, 0, 0, 0, 0), (73, .aload_n 0, 1, 0, 0, 0, 0), (74, .getfield 15, 3, 7, 0, 897, 0), (77, .getfield 34, 3, 8, 7, 674, 0), (80, .getstatic 124, 3, 24, 0, 950, 0), (83, .if_acmp .ne 5, 3, 88, 0, 0, 0), (86, .iconst 4, 1, 0, 0, 0, 0), (87, .ireturn, 1, 0, 0, 0, 0), (88, .aload_n 0, 1, 0, 0, 0, 0), (89, .getfield 15, 3, 7, 0, 897, 0), (92, .getfield 34, 3, 8, 7, 674, 0), (95, .getstatic 127, 3, 25, 0, 952, 0), (98, .if_acmp .ne 7, 3, 105, 0, 0, 0), (101, .iconst 5, 1, 0, 0, 0, 0), (102, .goto 4, 3, 106, 0, 0, 0), (105, .iconst (-1), 1, 0, 0, 0, 0), (106, .ireturn, 1, 0, 0, 0, 0)]
def x_t_X8_readCase : List (Nat × x_Row) := [(0, .aload_n 0, 1, 0, 0, 0, 0), (1, .dup, 1, 0, 0, 0, 0), (2, .getfield 9, 3, 7, 2, 901, 0), (5, .iconst 1, 1, 0, 0, 0, 0), (6, .iadd, 1, 0, 0, 0, 0), (7, .putfield 9, 3, 7, 2, 901, 0), (10, .iload_n 1, 1, 0, 0, 0, 0), (11, .ifCond .ne 39, 3, 50, 0, 0, 0), (14, .aload_n 0, 1, 0, 0, 0, 0), (15, .getfield 19, 3, 7, 1, 899, 0), (18, .iconst 2, 1, 0, 0, 0, 0), (19, .iload_n 1, 1, 0, 0, 0, 0), (20, .aload_n 0, 1, 0, 0, 0, 0), (21, .getfield 15, 3, 7, 0, 897, 0), (24, .getfield 34, 3, 8, 7, 674, 0), (27, .getstatic 75, 3, 15, 0, 940, 0), (30, .if_acmp .ne 7, 3, 37, 0, 0, 0), (33, .iconst 1, 1, 0, 0, 0, 0), (34, .goto 4, 3, 38, 0, 0, 0), (37, .iconst 0, 1, 0, 0, 0, 0), (38, .invokevirtual 90, 3, 70, 4, 960, 0), (41, .aload_n 0, 1, 0, 0, 0, 0), (42, .getfield 15, 3, 7, 0, 897, 0), (45, .invokevirtual 64, 3, 87, 1, 958, 0), (48, .iconst 1, 1, 0, 0, 0, 0), (49, .ireturn, 1, 0, 0, 0, 0), (50, .aload_n 0, 1, 0, 0, 0, 0), (51, .getfield 15, 3, 7, 0, 897, 0), (54, .invokevirtual 64, 3, 87, 1, 958, 0), (57, .aload_n 0, 1, 0, 0, 0, 0), (58, .invokevirtual 130, 3, 85, 1, 968, 0), (61, .istore_n 2, 1, 0, 0, 0, 0), (62, .iload_n 2, 1, 0, 0, 0, 0), (63, .iconst (-1), 1, 0, 0, 0, 0), (64, .if_icmp .ne 12, 3, 76, 0, 0, 0), (67, .aload_n 0, 1, 0, 0, 0, 0), (68, .getfield 15, 3, 7, 0, 897, 0), (71, .iconst 2, 1, 0, 0, 0, 0), (72, .invokevirtual 46, 3, 91, 2, 919, 0), (75, .ireturn, 1, 0, 0, 0, 0), (76, .aload_n 0, 1, 0, 0, 0, 0), (77, .getfield 15, 3, 7, 0, 897, 0), (80, .invokevirtual 64, 3, 87, 1, 958, 0), (83, .aload_n 0, 1, 0, 0, 0, 0), (84, .getfield 19, 3, 7, 1, 899, 0), (87, .iload_n 2, 1, 0, 0, 0, 0), (88, .iload_n 1, 1, 0, 0, 0, 0), (89, .aload_n 0, 1, 0, 0, 0, 0), (90, .getfield 15, 3, 7, 0, 897, 0), (93, .getfield 133, 3, 8, 8, 677, 0), (96, .invokevirtual 90, 3, 70, 4, 960, 0), (99, .aload_n 0, 1, 0, 0, 0, 0), (100, .getfield 15, 3, 7, 0, 897, 0), (103, .iconst 0, 1, 0, 0, 0, 0), (104, .sipush 300, 3, 0, 0, 0, 0), (107, .invokevirtual 136, 3, 97, 3, 972, 0), (110, .ireturn, 1, 0, 0, 0, 0)]
def x_t_X8_comparesTold : List (Nat × x_Row) := [(0, .aload_n 0, 1, 0, 0, 0, 0), (1, .getfield 15, 3, 7, 0, 897, 0), (4, .bipush 60, 2, 0, 0, 0, 0), (6, .invokevirtual 103, 3, 94, 2, 935, 0), (9, .ifCond .eq 5, 3, 14, 0, 0, 0), (12, .iconst 0, 1, 0, 0, 0, 0), (13, .ireturn, 1, 0, 0, 0, 0), (14, .aload_n 0, 1, 0, 0, 0, 0), (15, .getfield 15, 3, 7, 0, 897, 0), (18, .bipush 62, 2, 0, 0, 0, 0), (20, .invokevirtual 103, 3, 94, 2, 935, 0), (23, .ifCond .eq 5, 3, 28, 0, 0, 0), (26, .iconst 1, 1, 0, 0, 0, 0), (27, .ireturn, 1, 0, 0, 0, 0), (28, .aload_n 0, 1, 0, 0, 0, 0), (29, .getfield 15, 3, 7, 0, 897, 0), (32, .bipush 61, 2, 0, 0, 0, 0), (34, .invokevirtual 103, 3, 94, 2, 935, 0), (37, .ifCond .eq 7, 3, 44, 0, 0, 0), (40, .iconst 2, 1, 0, 0, 0, 0), (41, .goto 4, 3, 45, 0, 0, 0), (44, .iconst (-1), 1, 0, 0, 0, 0), (45, .ireturn, 1, 0, 0, 0, 0)]
def x_t_X9_init : List (Nat × x_Row) := [(0, .aload_n 0, 1, 0, 0, 0, 0), (1, .invokespecial 3, 3, 1000, 0, 640, 0), (4, .aload_n 0, 1, 0, 0, 0, 0), (5, .iconst 0, 1, 0, 0, 0, 0), (6, .putfield 9, 3, 8, 2, 664, 0), (9, .aload_n 0, 1, 0, 0, 0, 0), (10, .iconst 3, 1, 0, 0, 0, 0), (11, .putfield 15, 3, 8, 3, 665, 0), (14, .aload_n 0, 1, 0, 0, 0, 0), (15, .iconst 0, 1, 0, 0, 0, 0), (16, .putfield 18, 3, 8, 4, 668, 0), (19, .aload_n 0, 1, 0, 0, 0, 0), (20, .iconst 0, 1, 0, 0, 0, 0), (21, .putfield 21, 3, 8, 5, 669, 0), (24, .aload_n 0, 1, 0, 0, 0, 0), (25, .lconst 0, 1, 0, 0, 0, 0), (26, .putfield 24, 3, 8, 6, 670, 0), (29, .aload_n 0, 1, 0, 0, 0, 0), (30, .aconst_null, 1, 0, 0, 0, 0), (31, .putfield 28, 3, 8, 7, 672, 0), (34, .aload_n 0, 1, 0, 0, 0, 0), (35, .iconst 0, 1, 0, 0, 0, 0), (36, .putfield 32, 3, 8, 8, 675, 0), (39, .aload_n 0, 1, 0, 0, 0, 0), (40, .iconst 0, 1, 0, 0, 0, 0), (41, .putfield 35, 3, 8, 9, 678, 0), (44, .aload_n 0, 1, 0, 0, 0, 0), (45, .iconst 0, 1, 0, 0, 0, 0), (46, .putfield 38, 3, 8, 10, 679, 0), (49, .aload_n 0, 1, 0, 0, 0, 0), (50, .iconst (-1), 1, 0, 0, 0, 0), (51, .putfield 41, 3, 8, 11, 681, 0), (54, .aload_n 0, 1, 0, 0, 0, 0), (55, .aload_n 1, 1, 0, 0, 0, 0), (56, .putfield 44, 3, 8, 0, 662, 0), (59, .aload_n 0, 1, 0, 0, 0, 0), (60, .iload_n 2, 1, 0, 0, 0, 0), (61, .aload_n 1, 1, 0, 0, 0, 0), (62, .arraylength, 1, 0, 0, 0, 0), (63, .invokestatic 48, 3, 1003, 0, 641, 0), (66, .putfield 54, 3, 8, 1, 663, 0), (69, .aload_n 0, 1, 0, 0, 0, 0), (70, .invokevirtual 57, 3, 87, 1, 644, 0), (73, .return_, 1, 0, 0, 0, 0)]
def x_t_X9_step : List (Nat × x_Row) := [(0, .aload_n 0, 1, 0, 0, 0, 0), (1, .getfield 9, 3, 8, 2, 664, 0), (4, .aload_n 0, 1, 0, 0, 0, 0), (5, .getfield 54, 3, 8, 1, 663, 0), (8, .if_icmp .ge 44, 3, 52, 0, 0, 0), (11, .aload_n 0, 1, 0, 0, 0, 0), (12, .getfield 44, 3, 8, 0, 662, 0), (15, .aload_n 0, 1, 0, 0, 0, 0), (16, .getfield 9, 3, 8, 2, 664, 0), (19, .baload, 1, 0, 0, 0, 0), (20, .bipush 32, 2, 0, 0, 0, 0), (22, .if_icmp .eq 17, 3, 39, 0, 0, 0), (25, .aload_n 0, 1, 0, 0, 0, 0), (26, .getfield 44, 3, 8, 0, 662, 0), (29, .aload_n 0, 1, 0, 0, 0, 0), (30, .getfield 9, 3, 8, 2, 664, 0), (33, .baload, 1, 0, 0, 0, 0), (34, .bipush 10, 2, 0, 0, 0, 0), (36, .if_icmp .ne 16, 3, 52, 0, 0, 0), (39, .aload_n 0, 1, 0, 0, 0, 0), (40, .dup, 1, 0, 0, 0, 0), (41, .getfield 9, 3, 8, 2, 664, 0), (44, .iconst 1, 1, 0, 0, 0, 0), (45, .iadd, 1, 0, 0, 0, 0), (46, .putfield 9, 3, 8, 2, 664, 0), (49, .goto (-49), 3, 0, 0, 0, 0), (52, .aload_n 0, 1, 0, 0, 0, 0), (53, .aload_n 0, 1, 0, 0, 0, 0), (54, .getfield 9, 3, 8, 2, 664, 0), (57, .putfield 18, 3, 8, 4, 668, 0), (60, .aload_n 0, 1, 0, 0, 0, 0), (61, .aconst_null, 1, 0, 0, 0, 0), (62, .putfield 28, 3, 8, 7, 672, 0), (65, .aload_n 0, 1, 0, 0, 0, 0), (66, .getfield 9, 3, 8, 2, 664, 0), (69, .aload_n 0, 1, 0, 0, 0, 0), (70, .getfield 54, 3, 8, 1, 663, 0), (73, .if_icmp .lt 9, 3, 82, 0, 0, 0), (76, .aload_n 0, 1, 0, 0, 0, 0), (77, .iconst 3, 1, 0, 0, 0, 0), (78, .putfield 15, 3, 8, 3, 665, 0), (81, .return_, 1, 0, 0, 0, 0), (82, .aload_n 0, 1, 0, 0, 0, 0), (83, .getfield 44, 3, 8, 0, 662, 0), (86, .aload_n 0, 1, 0, 0, 0, 0), (87, .getfield 9, 3, 8, 2, 664, 0), (90, .baload, 1, 0, 0, 0, 0), (91, .istore_n 1, 1, 0, 0, 0, 0), (92, .iload_n 1, 1, 0, 0, 0, 0), (93, .bipush 97, 2, 0, 0, 0, 0), (95, .if_icmp .lt 16, 3, 111, 0, 0, 0), (98, .iload_n 1, 1, 0, 0, 0, 0), (99, .bipush 122, 2, 0, 0, 0, 0), (101, .if_icmp .gt 10, 3, 111, 0, 0, 0), (104, .aload_n 0, 1, 0, 0, 0, 0), (105, .invokevirtual 60, 3, 88, 1, 648, 0), (108, .goto 53, 3, 161, 0, 0, 0), (111, .iload_n 1, 1, 0, 0, 0, 0), (112, .bipush 48, 2, 0, 0, 0, 0), (114, .if_icmp .lt 16, 3, 130, 0, 0, 0), (117, .iload_n 1, 1, 0, 0, 0, 0), (118, .bipush 57, 2, 0, 0, 0, 0), (120, .if_icmp .gt 10, 3, 130, 0, 0, 0), (123, .aload_n 0, 1, 0, 0, 0, 0), (124, .invokevirtual 63, 3, 89, 1, 655, 0), (127, .goto 34, 3, 161, 0, 0, 0), (130, .aload_n 0, 1, 0, 0, 0, 0), (131, .iload_n 1, 1, 0, 0, 0, 0), (132, .invokestatic 66, 3, 90, 1, 659, 0), (135, .ifCond .eq 7, 3, 142, 0, 0, 0), (138, .iconst 2, 1, 0, 0, 0, 0), (139, .goto 4, 3, 143, 0, 0, 0), (142, .iconst 4, 1, 0, 0, 0, 0), (143, .putfield 15, 3, 8, 3, 665, 0), (146, .aload_n 0, 1, 0, 0, 0, 0), (147, .iload_n 1, 1, 0, 0, 0, 0), (148, .putfield 35, 3, 8, 9, 678, 0), (151, .aload_n 0, 1, 0, 0, 0, 0), (152, .dup, 1, 0, 0, 0, 0), (153, .getfield 9, 3, 8, 2, 664, 0), (156, .iconst 1, 1, 0, 0, 0, 0), (157, .iadd, 1, 0, 0, 0, 0), (158, .putfield 9, 3, 8, 2, 664, 0), (161, .return_, 1, 0, 0, 0, 0)]
def x_t_X9_stepWord : List (Nat × x_Row) := [(0, .aload_n 0, 1, 0, 0, 0, 0), (1, .iconst 0, 1, 0, 0, 0, 0), (2, .putfield 15, 3, 8, 3, 665, 0), (5, .aload_n 0, 1, 0, 0, 0, 0), (6, .lconst 0, 1, 0, 0, 0, 0), (7, .putfield 24, 3, 8, 6, 670, 0), (10, .aload_n 0, 1, 0, 0, 0, 0), (11, .getfield 9, 3, 8, 2, 664, 0), (14, .aload_n 0, 1, 0, 0, 0, 0), (15, .getfield 54, 3, 8, 1, 663, 0), (18, .if_icmp .ge 72, 3, 90, 0, 0, 0), (21, .aload_n 0, 1, 0, 0, 0, 0), (22, .getfield 44, 3, 8, 0, 662, 0), (25, .aload_n 0, 1, 0, 0, 0, 0), (26, .getfield 9, 3, 8, 2, 664, 0), (29, .baload, 1, 0, 0, 0, 0), (30, .bipush 97, 2, 0, 0, 0, 0), (32, .if_icmp .lt 58, 3, 90, 0, 0, 0), (35, .aload_n 0, 1, 0, 0, 0, 0), (36, .getfield 44, 3, 8, 0, 662, 0), (39, .aload_n 0, 1, 0, 0, 0, 0), (40, .getfield 9, 3, 8, 2, 664, 0), (43, .baload, 1, 0, 0, 0, 0), (44, .bipush 122, 2, 0, 0, 0, 0), (46, .if_icmp .gt 44, 3, 90, 0, 0, 0), (49, .aload_n 0, 1, 0, 0, 0, 0), (50, .aload_n 0, 1, 0, 0, 0, 0), (51, .getfield 24, 3, 8, 6, 670, 0), (54, .ldc2_w 70, 3, 0, 0, 652, 32), (57, .lmul, 1, 0, 0, 0, 0), (58, .aload_n 0, 1, 0, 0, 0, 0), (59, .getfield 44, 3, 8, 0, 662, 0), (62, .aload_n 0, 1, 0, 0, 0, 0), (63, .getfield 9, 3, 8, 2, 664, 0), (66, .baload, 1, 0, 0, 0, 0), (67, .bipush 97, 2, 0, 0, 0, 0), (69, .isub, 1, 0, 0, 0, 0), (70, .iconst 1, 1, 0, 0, 0, 0), (71, .iadd, 1, 0, 0, 0, 0), (72, .i2l, 1, 0, 0, 0, 0), (73, .ladd, 1, 0, 0, 0, 0), (74, .putfield 24, 3, 8, 6, 670, 0), (77, .aload_n 0, 1, 0, 0, 0, 0), (78, .dup, 1, 0, 0, 0, 0), (79, .getfield 9, 3, 8, 2, 664, 0), (82, .iconst 1, 1, 0, 0, 0, 0), (83, .iadd, 1, 0, 0, 0, 0), (84, .putfield 9, 3, 8, 2, 664, 0), (87, .goto (-77), 3, 10, 0, 0, 0), (90, .aload_n 0, 1, 0, 0, 0, 0), (91, .aload_n 0, 1, 0, 0, 0, 0), (92, .getfield 9, 3, 8, 2, 664, 0), (95, .aload_n 0, 1, 0, 0, 0, 0), (96, .getfield 18, 3, 8, 4, 668, 0), (99, .isub, 1, 0, 0, 0, 0), (100, .putfield 21, 3, 8, 5, 669, 0), (103, .iconst 0, 1, 0, 0, 0, 0), (104, .istore_n 1, 1, 0, 0, 0, 0), (105, .iload_n 1, 1, 0, 0, 0, 0), (106, .getstatic 72, 3, 26, 0, 653, 0), (109, .arraylength, 1, 0, 0, 0, 0), (110, .if_icmp .ge 43, 3, 153, 0, 0, 0), (113, .aload_n 0, 1, 0, 0, 0, 0), (114, .getfield 21, 3, 8, 5, 669, 0), (117, .bipush 8, 2, 0, 0, 0, 0), (119, .if_icmp .gt 34, 3, 153, 0, 0, 0), (122, .getstatic 72, 3, 26, 0, 653, 0), (125, .iload_n 1, 1, 0, 0, 0, 0), (126, .aaload, 1, 0, 0, 0, 0), (127, .getfield 76, 3, 200, 0, 2279, 0), (130, .aload_n 0, 1, 0, 0, 0, 0), (131, .getfield 24, 3, 8, 6, 670, 0), (134, .lcmp, 1, 0, 0, 0, 0), (135, .ifCond .ne 12, 3, 147, 0, 0, 0), (138, .aload_n 0, 1, 0, 0, 0, 0), (139, .getstatic 72, 3, 26, 0, 653, 0), (142, .iload_n 1, 1, 0, 0, 0, 0), (143, .aaload, 1, 0, 0, 0, 0), (144, .putfield 28, 3, 8, 7, 672, 0), (147, .iinc 1 1, 3, 0, 0, 0, 0), (150, .goto (-45), 3, 105, 0, 0, 0), (153, .return_, 1, 0, 0, 0, 0)]
def x_t_X9_stepNumber : List (Nat × x_Row) := [(0, .aload_n 0, 1, 0, 0, 0, 0), (1, .iconst 0, 1, 0, 0, 0, 0), (2, .putfield 32, 3, 8, 8, 675, 0), (5, .aload_n 0, 1, 0, 0, 0, 0), (6, .getfield 9, 3, 8, 2, 664, 0), (9, .aload_n 0, 1, 0, 0, 0, 0), (10, .getfield 54, 3, 8, 1, 663, 0), (13, .if_icmp .ge 68, 3, 81, 0, 0, 0), (16, .aload_n 0, 1, 0, 0, 0, 0), (17, .getfield 44, 3, 8, 0, 662, 0), (20, .aload_n 0, 1, 0, 0, 0, 0), (21, .getfield 9, 3, 8, 2, 664, 0), (24, .baload, 1, 0, 0, 0, 0), (25, .bipush 48, 2, 0, 0, 0, 0), (27, .if_icmp .lt 54, 3, 81, 0, 0, 0), (30, .aload_n 0, 1, 0, 0, 0, 0), (31, .getfield 44, 3, 8, 0, 662, 0), (34, .aload_n 0, 1, 0, 0, 0, 0), (35, .getfield 9, 3, 8, 2, 664, 0), (38, .baload, 1, 0, 0, 0, 0), (39, .bipush 57, 2, 0, 0, 0, 0), (41, .if_icmp .gt 40, 3, 81, 0, 0, 0), (44, .aload_n 0, 1, 0, 0, 0, 0), (45, .aload_n 0, 1, 0, 0, 0, 0), (46, .getfield 32, 3, 8, 8, 675, 0), (49, .bipush 10, 2, 0, 0, 0, 0), (51, .imul, 1, 0, 0, 0, 0), (52, .aload_n 0, 1, 0, 0, 0, 0), (53, .getfield 44, 3, 8, 0, 662, 0), (56, .aload_n 0, 1, 0, 0, 0, 0), (57, .getfield 9, 3, 8, 2, 664, 0), (60, .baload, 1, 0, 0, 0, 0), (61, .bipush 48, 2, 0, 0, 0, 0), (63, .isub, 1, 0, 0, 0, 0), (64, .iadd, 1, 0, 0, 0, 0), (65, .putfield 32, 3, 8, 8, 675, 0), (68, .aload_n 0, 1, 0, 0, 0, 0), (69, .dup, 1, 0, 0, 0, 0), (70, .getfield 9, 3, 8, 2, 664, 0), (73, .iconst 1, 1, 0, 0, 0, 0), (74, .iadd, 1, 0, 0, 0, 0), (75, .putfield 9, 3, 8, 2, 664, 0), (78, .goto (-73), 3, 5, 0, 0, 0), (81, .aload_n 0, 1, 0, 0, 0, 0), (82, .aload_n 0, 1, 0, 0, 0, 0), (83, .getfield 9, 3, 8, 2, 664, 0), (86, .aload_n 0, 1, 0, 0, 0, 0), (87, .getfield 18, 3, 8, 4, 668, 0), (90, .isub, 1, 0, 0, 0, 0), (91, .iconst 4, 1, 0, 0, 0, 0), (92, .if_icmp .le 7, 3, 99, 0, 0, 0), (95, .iconst 4, 1, 0, 0, 0, 0), (96, .goto 4, 3, 100, 0, 0, 0), (99, .iconst 1, 1, 0, 0, 0, 0), (100, .putfield 15, 3, 8, 3, 665, 0), (103, .return_, 1, 0, 0, 0, 0)]
def x_t_X9_isSign : List (Nat × x_Row) := [(0, .iload_n 0, 1, 0, 0, 0, 0), (1, .bipush 59, 2, 0, 0, 0, 0), (3, .if_icmp .eq 33, 3, 36, 0, 0, 0), (6, .iload_n 0, 1, 0, 0, 0, 0), (7, .bipush 60, 2, 0, 0, 0, 0), (9, .if_icmp .eq 27, 3, 36, 0, 0, 0), (12, .iload_n 0, 1, 0, 0, 0, 0), (13, .bipush 62, 2, 0, 0, 0, 0), (15, .if_icmp .eq 21, 3, 36, 0, 0, 0), (18, .iload_n 0, 1, 0, 0, 0, 0), (19, .bipush 61, 2, 0, 0, 0, 0), (21, .if_icmp .eq 15, 3, 36, 0, 0, 0), (24, .iload_n 0, 1, 0, 0, 0, 0), (25, .bipush 40, 2, 0, 0, 0, 0), (27, .if_icmp .eq 9, 3, 36, 0, 0, 0), (30, .iload_n 0, 1, 0, 0, 0, 0), (31, .bipush 41, 2, 0, 0, 0, 0), (33, .if_icmp .ne 7, 3, 40, 0, 0, 0), (36, .iconst 1, 1, 0, 0, 0, 0), (37, .goto 4, 3, 41, 0, 0, 0), (40, .iconst 0, 1, 0, 0, 0, 0), (41, .ireturn, 1, 0, 0, 0, 0)]
def x_t_X9_refuseToken : List (Nat × x_Row) := [(0, .aload_n 0, 1, 0, 0, 0, 0), (1, .aload_n 0, 1, 0, 0, 0, 0), (2, .getfield 15, 3, 8, 3, 665, 0), (5, .iconst 4, 1, 0, 0, 0, 0), (6, .if_icmp .ne 7, 3, 13, 0, 0, 0), (9, .iconst 1, 1, 0, 0, 0, 0), (10, .goto 4, 3, 14, 0, 0, 0), (13, .iload_n 1, 1, 0, 0, 0, 0), (14, .putfield 38, 3, 8, 10, 679, 0), (17, .aload_n 0, 1, 0, 0, 0, 0), (18, .aload_n 0, 1, 0, 0, 0, 0), (19, .getfield 18, 3, 8, 4, 668, 0), (22, .putfield 41, 3, 8, 11, 681, 0), (25, .iconst 0, 1, 0, 0, 0, 0), (26, .ireturn, 1, 0, 0, 0, 0)]
def x_t_X9_isName : List (Nat × x_Row) := [(0, .aload_n 0, 1, 0, 0, 0, 0), (1, .getfield 15, 3, 8, 3, 665, 0), (4, .ifCond .ne 23, 3, 27, 0, 0, 0), (7, .aload_n 0, 1, 0, 0, 0, 0), (8, .getfield 28, 3, 8, 7, 672, 0), (11, .ifnonnull 16, 3, 27, 0, 0, 0), (14, .aload_n 0, 1, 0, 0, 0, 0), (15, .getfield 21, 3, 8, 5, 669, 0), (18, .bipush 8, 2, 0, 0, 0, 0), (20, .if_icmp .gt 7, 3, 27, 0, 0, 0), (23, .iconst 1, 1, 0, 0, 0, 0), (24, .goto 4, 3, 28, 0, 0, 0), (27, .iconst 0, 1, 0, 0, 0, 0), (28, .ireturn, 1, 0, 0, 0, 0)]
def x_t_X9_isBlasts : List (Nat × x_Row) := [(0, .aload_n 0, 1, 0, 0, 0, 0), (1, .getfield 15, 3, 8, 3, 665, 0), (4, .ifCond .ne 12, 3, 16, 0, 0, 0), (7, .aload_n 0, 1, 0, 0, 0, 0), (8, .getfield 21, 3, 8, 5, 669, 0), (11, .bipush 6, 2, 0, 0, 0, 0), (13, .if_icmp .le 5, 3, 18, 0, 0, 0), (16, .iconst 0, 1, 0, 0, 0, 0), (17, .ireturn, 1, 0, 0, 0, 0), (18, .aload_n 0, 1, 0, 0, 0, 0), (19, .getfield 18, 3, 8, 4, 668, 0), (22, .istore_n 1, 1, 0, 0, 0, 0), (23, .iload_n 1, 1, 0, 0, 0, 0), (24, .aload_n 0, 1, 0, 0, 0, 0), (25, .getfield 9, 3, 8, 2, 664, 0), (28, .if_icmp .ge 33, 3, 61, 0, 0, 0), (31, .aload_n 0, 1, 0, 0, 0, 0), (32, .getfield 44, 3, 8, 0, 662, 0), (35, .iload_n 1, 1, 0, 0, 0, 0), (36, .baload, 1, 0, 0, 0, 0), (37, .bipush 108, 2, 0, 0, 0, 0), (39, .if_icmp .eq 16, 3, 55, 0, 0, 0), (42, .aload_n 0, 1, 0, 0, 0, 0), (43, .getfield 44, 3, 8, 0, 662, 0), (46, .iload_n 1, 1, 0, 0, 0, 0), (47, .baload, 1, 0, 0, 0, 0), (48, .bipush 115, 2, 0, 0, 0, 0), (50, .if_icmp .eq 5, 3, 55, 0, 0, 0), (53, .iconst 0, 1, 0, 0, 0, 0), (54, .ireturn, 1, 0, 0, 0, 0), (55, .iinc 1 1, 3, 0, 0, 0, 0), (58, .goto (-35), 3, 23, 0, 0, 0), (61, .iconst 1, 1, 0, 0, 0, 0), (62, .ireturn, 1, 0, 0, 0, 0)]
def x_t_X9_isSignOf : List (Nat × x_Row) := [(0, .aload_n 0, 1, 0, 0, 0, 0), (1, .getfield 15, 3, 8, 3, 665, 0), (4, .iconst 2, 1, 0, 0, 0, 0), (5, .if_icmp .ne 15, 3, 20, 0, 0, 0), (8, .aload_n 0, 1, 0, 0, 0, 0), (9, .getfield 35, 3, 8, 9, 678, 0), (12, .iload_n 1, 1, 0, 0, 0, 0), (13, .if_icmp .ne 7, 3, 20, 0, 0, 0), (16, .iconst 1, 1, 0, 0, 0, 0), (17, .goto 4, 3, 21, 0, 0, 0), (20, .iconst 0, 1, 0, 0, 0, 0), (21, .ireturn, 1, 0, 0, 0, 0)]
def x_t_X9_takeKeyword : List (Nat × x_Row) := [(0, .aload_n 0, 1, 0, 0, 0, 0), (1, .getfield 28, 3, 8, 7, 672, 0), (4, .aload_n 1, 1, 0, 0, 0, 0), (5, .if_acmp .eq 9, 3, 14, 0, 0, 0), (8, .aload_n 0, 1, 0, 0, 0, 0), (9, .iconst 2, 1, 0, 0, 0, 0), (10, .invokevirtual 79, 3, 91, 2, 770, 0), (13, .ireturn, 1, 0, 0, 0, 0), (14, .aload_n 0, 1, 0, 0, 0, 0), (15, .invokevirtual 57, 3, 87, 1, 644, 0), (18, .iconst 1, 1, 0, 0, 0, 0), (19, .ireturn, 1, 0, 0, 0, 0)]
def x_t_X9_takeSign : List (Nat × x_Row) := [(0, .aload_n 0, 1, 0, 0, 0, 0), (1, .iload_n 1, 1, 0, 0, 0, 0), (2, .invokevirtual 83, 3, 94, 2, 843, 0), (5, .ifCond .ne 9, 3, 14, 0, 0, 0), (8, .aload_n 0, 1, 0, 0, 0, 0), (9, .iconst 2, 1, 0, 0, 0, 0), (10, .invokevirtual 79, 3, 91, 2, 770, 0), (13, .ireturn, 1, 0, 0, 0, 0), (14, .aload_n 0, 1, 0, 0, 0, 0), (15, .invokevirtual 57, 3, 87, 1, 644, 0), (18, .iconst 1, 1, 0, 0, 0, 0), (19, .ireturn, 1, 0, 0, 0, 0)]
def x_t_X9_takeNumber : List (Nat × x_Row) := [(0, .aload_n 0, 1, 0, 0, 0, 0), (1, .getfield 15, 3, 8, 3, 665, 0), (4, .iconst 1, 1, 0, 0, 0, 0), (5, .if_icmp .eq 9, 3, 14, 0, 0, 0), (8, .aload_n 0, 1, 0, 0, 0, 0), (9, .iconst 2, 1, 0, 0, 0, 0), (10, .invokevirtual 79, 3, 91, 2, 770, 0), (13, .ireturn, 1, 0, 0, 0, 0), (14, .aload_n 0, 1, 0, 0, 0, 0), (15, .getfield 32, 3, 8, 8, 675, 0), (18, .iload_n 1, 1, 0, 0, 0, 0), (19, .if_icmp .lt 11, 3, 30, 0, 0, 0), (22, .aload_n 0, 1, 0, 0, 0, 0), (23, .getfield 32, 3, 8, 8, 675, 0), (26, .iload_n 2, 1, 0, 0, 0, 0), (27, .if_icmp .le 9, 3, 36, 0, 0, 0), (30, .aload_n 0, 1, 0, 0, 0, 0), (31, .iconst 4, 1, 0, 0, 0, 0), (32, .invokevirtual 79, 3, 91, 2, 770, 0), (35, .ireturn, 1, 0, 0, 0, 0), (36, .aload_n 0, 1, 0, 0, 0, 0), (37, .invokevirtual 57, 3, 87, 1, 644, 0), (40, .iconst 1, 1, 0, 0, 0, 0), (41, .ireturn, 1, 0, 0, 0, 0)]
def x_t_X10_init : List (Nat × x_Row) := [(0, .aload_n 0, 1, 0, 0, 0, 0), (1, .invokespecial 3, 3, 1000, 0, 482, 0), (4, .aload_n 0, 1, 0, 0, 0, 0), (5, .bipush 60, 2, 0, 0, 0, 0), (7, .newarray .long, 2, 0, 0, 0, 0), (9, .putfield 11, 3, 9, 0, 483, 0), (12, .aload_n 0, 1, 0, 0, 0, 0), (13, .iconst 0, 1, 0, 0, 0, 0), (14, .putfield 15, 3, 9, 1, 485, 0), (17, .aload_n 0, 1, 0, 0, 0, 0), (18, .iconst (-1), 1, 0, 0, 0, 0), (19, .putfield 19, 3, 9, 2, 487, 0), (22, .return_, 1, 0, 0, 0, 0)]
def x_t_X10_lay : List (Nat × x_Row) := [(0, .aload_n 0, 1, 0, 0, 0, 0), (1, .iload_n 1, 1, 0, 0, 0, 0), (2, .putfield 15, 3, 9, 1, 485, 0), (5, .aload_n 0, 1, 0, 0, 0, 0), (6, .iload_n 2, 1, 0, 0, 0, 0), (7, .putfield 19, 3, 9, 2, 487, 0), (10, .iconst 0, 1, 0, 0, 0, 0), (11, .istore_n 3, 1, 0, 0, 0, 0), (12, .iload_n 3, 1, 0, 0, 0, 0), (13, .aload_n 0, 1, 0, 0, 0, 0), (14, .getfield 11, 3, 9, 0, 483, 0), (17, .arraylength, 1, 0, 0, 0, 0), (18, .if_icmp .ge 16, 3, 34, 0, 0, 0), (21, .aload_n 0, 1, 0, 0, 0, 0), (22, .getfield 11, 3, 9, 0, 483, 0), (25, .iload_n 3, 1, 0, 0, 0, 0), (26, .lconst 0, 1, 0, 0, 0, 0), (27, .lastore, 1, 0, 0, 0, 0), (28, .iinc 3 1, 3, 0, 0, 0, 0), (31, .goto (-19), 3, 12, 0, 0, 0), (34, .return_, 1, 0, 0, 0, 0)]
def x_t_X10_isMissing : List (Nat × x_Row) := [(0, .aload_n 0, 1, 0, 0, 0, 0), (1, .getfield 19, 3, 9, 2, 487, 0), (4, .iconst (-1), 1, 0, 0, 0, 0), (5, .if_icmp .ne 7, 3, 12, 0, 0, 0), (8, .iconst 1, 1, 0, 0, 0, 0), (9, .goto 4, 3, 13, 0, 0, 0), (12, .iconst 0, 1, 0, 0, 0, 0), (13, .ireturn, 1, 0, 0, 0, 0)]
def x_t_X10_hasStretch : List (Nat × x_Row) := [(0, .iload_n 1, 1, 0, 0, 0, 0), (1, .aload_n 0, 1, 0, 0, 0, 0), (2, .getfield 19, 3, 9, 2, 487, 0), (5, .if_icmp .gt 17, 3, 22, 0, 0, 0), (8, .iload_n 2, 1, 0, 0, 0, 0), (9, .aload_n 0, 1, 0, 0, 0, 0), (10, .getfield 19, 3, 9, 2, 487, 0), (13, .iload_n 1, 1, 0, 0, 0, 0), (14, .isub, 1, 0, 0, 0, 0), (15, .if_icmp .gt 7, 3, 22, 0, 0, 0), (18, .iconst 1, 1, 0, 0, 0, 0), (19, .goto 4, 3, 23, 0, 0, 0), (22, .iconst 0, 1, 0, 0, 0, 0), (23, .ireturn, 1, 0, 0, 0, 0)]
def x_t_X10_put : List (Nat × x_Row) := [(0, .iload_n 1, 1, 0, 0, 0, 0), (1, .ifCond .lt 12, 3, 13, 0, 0, 0), (4, .iload_n 1, 1, 0, 0, 0, 0), (5, .aload_n 0, 1, 0, 0, 0, 0), (6, .getfield 11, 3, 9, 0, 483, 0), (9, .arraylength, 1, 0, 0, 0, 0), (10, .if_icmp .lt 4, 3, 14, 0, 0, 0), (13, .return_, 1, 0, 0, 0, 0), (14, .aload_n 0, 1, 0, 0, 0, 0), (15, .getfield 15, 3, 9, 1, 485, 0), (18, .tableswitch 64 0 2 #[26, 39, 52], 26, 0, 0, 0, 0), (44, .aload_n 0, 1, 0, 0, 0, 0), (45, .getfield 11, 3, 9, 0, 483, 0), (48, .iload_n 1, 1, 0, 0, 0, 0), (49, .lload_n 2, 1, 0, 0, 0, 0), (50, .l2i, 1, 0, 0, 0, 0), (51, .i2b, 1, 0, 0, 0, 0), (52, .i2l, 1, 0, 0, 0, 0), (53, .lastore, 1, 0, 0, 0, 0), (54, .goto 35, 3, 89, 0, 0, 0), (57, .aload_n 0, 1, 0, 0, 0, 0), (58, .getfield 11, 3, 9, 0, 483, 0), (61, .iload_n 1, 1, 0, 0, 0, 0), (62, .lload_n 2, 1, 0, 0, 0, 0), (63, .l2i, 1, 0, 0, 0, 0), (64, .i2s, 1, 0, 0, 0, 0), (65, .i2l, 1, 0, 0, 0, 0), (66, .lastore, 1, 0, 0, 0, 0), (67, .goto 22, 3, 89, 0, 0, 0), (70, .aload_n 0, 1, 0, 0, 0, 0), (71, .getfield 11, 3, 9, 0, 483, 0), (74, .iload_n 1, 1, 0, 0, 0, 0), (75, .lload_n 2, 1, 0, 0, 0, 0), (76, .l2i, 1, 0, 0, 0, 0), (77, .i2l, 1, 0, 0, 0, 0), (78, .lastore, 1, 0, 0, 0, 0), (79, .goto 10, 3, 89, 0, 0, 0), (82, .aload_n 0, 1, 0, 0, 0, 0), (83, .getfield 11, 3, 9, 0, 483, 0), (86, .iload_n 1, 1, 0, 0, 0, 0), (87, .lload_n 2, 1, 0, 0, 0, 0), (88, .lastore, 1, 0, 0, 0, 0), (89, .return_, 1, 0, 0, 0, 0)]
def x_t_X11_init : List (Nat × x_Row) := [(0, .aload_n 0, 1, 0, 0, 0, 0), (1, .invokespecial 1, 3, 1000, 0, 212, 0), (4, .aload_n 0, 1, 0, 0, 0, 0), (5, .iconst 0, 1, 0, 0, 0, 0), (6, .putfield 9, 3, 10, 0, 495, 0), (9, .aload_n 0, 1, 0, 0, 0, 0), (10, .lconst 0, 1, 0, 0, 0, 0), (11, .putfield 13, 3, 10, 1, 496, 0), (14, .aload_n 0, 1, 0, 0, 0, 0), (15, .lconst 1, 1, 0, 0, 0, 0), (16, .putfield 17, 3, 10, 2, 497, 0), (19, .aload_n 0, 1, 0, 0, 0, 0), (20, .iconst 4, 1, 0, 0, 0, 0), (21, .anewarray 20, 3, 4, 0, 215, 0), (24, .putfield 22, 3, 10, 3, 498, 0), (27, .aload_n 0, 1, 0, 0, 0, 0), (28, .sipush 900, 3, 0, 0, 0, 0), (31, .newarray .byte, 2, 0, 0, 0, 0), (33, .putfield 26, 3, 10, 4, 499, 0), (36, .aload_n 0, 1, 0, 0, 0, 0), (37, .iconst 0, 1, 0, 0, 0, 0), (38, .putfield 30, 3, 10, 5, 500, 0), (41, .aload_n 0, 1, 0, 0, 0, 0), (42, .new 33, 3, 4, 0, 217, 0), (45, .dup, 1, 0, 0, 0, 0), (46, .invokespecial 35, 3, 48, 1, 219, 0), (49, .putfield 36, 3, 10, 6, 501, 0), (52, .aload_n 0, 1, 0, 0, 0, 0), (53, .aconst_null, 1, 0, 0, 0, 0), (54, .putfield 40, 3, 10, 7, 502, 0), (57, .aload_n 0, 1, 0, 0, 0, 0), (58, .iconst (-1), 1, 0, 0, 0, 0), (59, .putfield 44, 3, 10, 8, 503, 0), (62, .aload_n 0, 1, 0, 0, 0, 0), (63, .iconst (-1), 1, 0, 0, 0, 0), (64, .putfield 47, 3, 10, 9, 504, 0), (67, .aload_n 0, 1, 0, 0, 0, 0), (68, .iconst 3, 1, 0, 0, 0, 0), (69, .anewarray 33, 3, 5, 0, 217, 0), (72, .putfield 50, 3, 10, 10, 505, 0), (75, .aload_n 0, 1, 0, 0, 0, 0), (76, .iconst 3, 1, 0, 0, 0, 0), (77, .anewarray 54, 3, 6, 0, 328, 0), (80, .putfield 56, 3, 10, 11, 506, 0), (83, .aload_n 0, 1, 0, 0, 0, 0), (84, .iconst 0, 1, 0, 0, 0, 0), (85, .putfield 60, 3, 10, 12, 507, 0), (88, .aload_n 0, 1, 0, 0, 0, 0), (89, .sipush 1422, 3, 0, 0, 0, 0), (92, .newarray .int, 2, 0, 0, 0, 0), (94, .putfield 63, 3, 10, 13, 508, 0), (97, .aload_n 0, 1, 0, 0, 0, 0), (98, .iconst 0, 1, 0, 0, 0, 0), (99, .putfield 67, 3, 10, 14, 509, 0), (102, .aload_n 0, 1, 0, 0, 0, 0), (103, .new 70, 3, 0, 0, 330, 0), (106, .dup, 1, 0, 0, 0, 0), (107, .invokespecial 72, 3, 0, 1, 332, 0), (110, .putfield 73, 3, 10, 15, 510, 0), (113, .aload_n 0, 1, 0, 0, 0, 0), (114, .new 77, 3, 1, 0, 363, 0), (117, .dup, 1, 0, 0, 0, 0), (118, .invokespecial 79, 3, 8, 1, 365, 0), (121, .putfield 80, 3, 10, 16, 511, 0), (124, .aload_n 0, 1, 0, 0, 0, 0), (125, .new 84, 3, 2, 0, 414, 0), (128, .dup, 1, 0, 0, 0, 0), (129, .invokespecial 86, 3, 30, 1, 416, 0), (132, .putfield 87, 3, 10, 17, 512, 0), (135, .iconst 0, 1, 0, 0, 0, 0), (136, .istore_n 1, 1, 0, 0, 0, 0), (137, .iload_n 1, 1, 0, 0, 0, 0), (138, .aload_n 0, 1, 0, 0, 0, 0), (139, .getfield 22, 3, 10, 3, 498, 0), (142, .arraylength, 1, 0, 0, 0, 0), (143, .if_icmp .ge 22, 3, 165, 0, 0, 0), (146, .aload_n 0, 1, 0, 0, 0, 0), (147, .getfield 22, 3, 10, 3, 498, 0), (150, .iload_n 1, 1, 0, 0, 0, 0), (151, .new 20, 3, 9, 0, 215, 0), (154, .dup, 1, 0, 0, 0, 0), (155, .invokespecial 91, 3, 98, 1, 479, 0), (158, .aastore, 1, 0, 0, 0, 0), (159, .iinc 1 1, 3, 0, 0, 0, 0), (162, .goto (-25), 3, 137, 0, 0, 0), (165, .return_, 1, 0, 0, 0, 0)]
def x_t_X11_status : List (Nat × x_Row) := [(0, .aload_n 0, 1, 0, 0, 0, 0), (1, .getfield 9, 3, 10, 0, 495, 0), (4, .ireturn, 1, 0, 0, 0, 0)]
def x_t_X11_top : List (Nat × x_Row) := [(0, .aload_n 0, 1, 0, 0, 0, 0), (1, .getfield 13, 3, 10, 1, 496, 0), (4, .lreturn, 1, 0, 0, 0, 0)]
def x_t_X11_bottom : List (Nat × x_Row) := [(0, .aload_n 0, 1, 0, 0, 0, 0), (1, .getfield 17, 3, 10, 2, 497, 0), (4, .lreturn, 1, 0, 0, 0, 0)]
def x_t_X11_tray : List (Nat × x_Row) := [(0, .aload_n 0, 1, 0, 0, 0, 0), (1, .iload_n 1, 1, 0, 0, 0, 0), (2, .invokevirtual 92, 3, 111, 2, 566, 0), (5, .ifCond .eq 22, 3, 27, 0, 0, 0), (8, .iload_n 2, 1, 0, 0, 0, 0), (9, .ifCond .lt 18, 3, 27, 0, 0, 0), (12, .iload_n 2, 1, 0, 0, 0, 0), (13, .iconst 3, 1, 0, 0, 0, 0), (14, .if_icmp .gt 13, 3, 27, 0, 0, 0), (17, .iload_n 3, 1, 0, 0, 0, 0), (18, .ifCond .lt 9, 3, 27, 0, 0, 0), (21, .iload_n 3, 1, 0, 0, 0, 0), (22, .bipush 60, 2, 0, 0, 0, 0), (24, .if_icmp .le 9, 3, 33, 0, 0, 0), (27, .aload_n 0, 1, 0, 0, 0, 0), (28, .iconst 1, 1, 0, 0, 0, 0), (29, .invokevirtual 96, 3, 168, 2, 570, 0), (32, .ireturn, 1, 0, 0, 0, 0), (33, .aload_n 0, 1, 0, 0, 0, 0), (34, .getfield 22, 3, 10, 3, 498, 0), (37, .iload_n 1, 1, 0, 0, 0, 0), (38, .aaload, 1, 0, 0, 0, 0), (39, .iload_n 2, 1, 0, 0, 0, 0), (40, .iload_n 3, 1, 0, 0, 0, 0), (41, .invokevirtual 99, 3, 99, 3, 574, 0), (44, .aload_n 0, 1, 0, 0, 0, 0), (45, .invokevirtual 103, 3, 166, 1, 578, 0), (48, .ireturn, 1, 0, 0, 0, 0)]
def x_t_X11_write : List (Nat × x_Row) := [(0, .aload_n 0, 1, 0, 0, 0, 0), (1, .iload_n 1, 1, 0, 0, 0, 0), (2, .iload_n 2, 1, 0, 0, 0, 0), (3, .invokevirtual 107, 3, 112, 3, 586, 0), (6, .istore 5, 2, 0, 0, 0, 0), (8, .iload 5, 2, 0, 0, 0, 0), (10, .ifCond .eq 10, 3, 20, 0, 0, 0), (13, .aload_n 0, 1, 0, 0, 0, 0), (14, .iload 5, 2, 0, 0, 0, 0), (16, .invokevirtual 96, 3, 168, 2, 570, 0), (19, .ireturn, 1, 0, 0, 0, 0), (20, .aload_n 0, 1, 0, 0, 0, 0), (21, .getfield 22, 3, 10, 3, 498, 0), (24, .iload_n 1, 1, 0, 0, 0, 0), (25, .aaload, 1, 0, 0, 0, 0), (26, .iload_n 2, 1, 0, 0, 0, 0), (27, .lload_n 3, 1, 0, 0, 0, 0), (28, .invokevirtual 111, 3, 102, 3, 598, 0), (31, .aload_n 0, 1, 0, 0, 0, 0), (32, .invokevirtual 103, 3, 166, 1, 578, 0), (35, .ireturn, 1, 0, 0, 0, 0)]
def x_t_X11_read : List (Nat × x_Row) := [(0, .aload_n 0, 1, 0, 0, 0, 0), (1, .iload_n 1, 1, 0, 0, 0, 0), (2, .iload_n 2, 1, 0, 0, 0, 0), (3, .invokevirtual 107, 3, 112, 3, 586, 0), (6, .istore_n 3, 1, 0, 0, 0, 0), (7, .iload_n 3, 1, 0, 0, 0, 0), (8, .ifCond .eq 10, 3, 18, 0, 0, 0), (11, .aload_n 0, 1, 0, 0, 0, 0), (12, .iload_n 3, 1, 0, 0, 0, 0), (13, .invokevirtual 115, 3, 167, 2, 606, 0), (16, .i2l, 1, 0, 0, 0, 0), (17, .lreturn, 1, 0, 0, 0, 0), (18, .aload_n 0, 1, 0, 0, 0, 0), (19, .aload_n 0, 1, 0, 0, 0, 0), (20, .getfield 22, 3, 10, 3, 498, 0), (23, .iload_n 1, 1, 0, 0, 0, 0), (24, .aaload, 1, 0, 0, 0, 0), (25, .getfield 119, 3, 9, 0, 484, 0), (28, .iload_n 2, 1, 0, 0, 0, 0), (29, .laload, 1, 0, 0, 0, 0), (30, .invokevirtual 123, 3, 165, 2, 610, 0), (33, .lreturn, 1, 0, 0, 0, 0)]
def x_t_X11_pour : List (Nat × x_Row) := [(0, .aload_n 0, 1, 0, 0, 0, 0), (1, .iload_n 1, 1, 0, 0, 0, 0), (2, .invokevirtual 92, 3, 111, 2, 566, 0), (5, .ifCond .eq 25, 3, 30, 0, 0, 0), (8, .aload_n 0, 1, 0, 0, 0, 0), (9, .iload_n 3, 1, 0, 0, 0, 0), (10, .invokevirtual 92, 3, 111, 2, 566, 0), (13, .ifCond .eq 17, 3, 30, 0, 0, 0), (16, .iload_n 2, 1, 0, 0, 0, 0), (17, .ifCond .lt 13, 3, 30, 0, 0, 0), (20, .iload 4, 2, 0, 0, 0, 0), (22, .ifCond .lt 8, 3, 30, 0, 0, 0), (25, .iload 5, 2, 0, 0, 0, 0), (27, .ifCond .ge 9, 3, 36, 0, 0, 0), (30, .aload_n 0, 1, 0, 0, 0, 0), (31, .iconst 1, 1, 0, 0, 0, 0), (32, .invokevirtual 96, 3, 168, 2, 570, 0), (35, .ireturn, 1, 0, 0, 0, 0), (36, .aload_n 0, 1, 0, 0, 0, 0), (37, .getfield 22, 3, 10, 3, 498, 0), (40, .iload_n 1, 1, 0, 0, 0, 0), (41, .aaload, 1, 0, 0, 0, 0), (42, .astore 6, 2, 0, 0, 0, 0), (44, .aload_n 0, 1, 0, 0, 0, 0), (45, .getfield 22, 3, 10, 3, 498, 0), (48, .iload_n 3, 1, 0, 0, 0, 0), (49, .aaload, 1, 0, 0, 0, 0), (50, .astore 7, 2, 0, 0, 0, 0), (52, .aload 6, 2, 0, 0, 0, 0), (54, .invokevirtual 127, 3, 100, 1, 590, 0), (57, .ifCond .ne 11, 3, 68, 0, 0, 0), (60, .aload 7, 2, 0, 0, 0, 0), (62, .invokevirtual 127, 3, 100, 1, 590, 0), (65, .ifCond .eq 9, 3, 74, 0, 0, 0), (68, .aload_n 0, 1, 0, 0, 0, 0), (69, .iconst 2, 1, 0, 0, 0, 0), (70, .invokevirtual 96, 3, 168, 2, 570, 0), (73, .ireturn, 1, 0, 0, 0, 0), (74, .aload 6, 2, 0, 0, 0, 0), (76, .getfield 130, 3, 9, 1, 486, 0), (79, .aload 7, 2, 0, 0, 0, 0), (81, .getfield 130, 3, 9, 1, 486, 0), (84, .if_icmp .eq 10, 3, 94, 0, 0, 0), (87, .aload_n 0, 1, 0, 0, 0, 0), (88, .bipush 8, 2, 0, 0, 0, 0), (90, .invokevirtual 96, 3, 168, 2, 570, 0), (93, .ireturn, 1, 0, 0, 0, 0), (94, .aload 6, 2, 0, 0, 0, 0), (96, .iload_n 2, 1, 0, 0, 0, 0), (97, .iload 5, 2, 0, 0, 0, 0), (99, .invokevirtual 133, 3, 101, 3, 594, 0), (102, .ifCond .eq 15, 3, 117, 0, 0, 0), (105, .aload 7, 2, 0, 0, 0, 0), (107, .iload 4, 2, 0, 0, 0, 0), (109, .iload 5, 2, 0, 0, 0, 0), (111, .invokevirtual 133, 3, 101, 3, 594, 0), (114, .ifCond .ne 9, 3, 123, 0, 0, 0), (117, .aload_n 0, 1, 0, 0, 0, 0), (118, .iconst 3, 1, 0, 0, 0, 0), (119, .invokevirtual 96, 3, 168, 2, 570, 0), (122, .ireturn, 1, 0, 0, 0, 0), (123, .aload 6, 2, 0, 0, 0, 0), (125, .getfield 119, 3, 9, 0, 484, 0), (128, .iload_n 2, 1, 0, 0, 0, 0), (129, .aload 7, 2, 0, 0, 0, 0), (131, .getfield 119, 3, 9, 0, 484, 0), (134, .iload 4, 2, 0, 0, 0, 0), (136, .iload 5, 2, 0, 0, 0, 0), (138, .invokestatic 137, 3, 1001, 0, 618, 0), (141, .aload_n 0, 1, 0, 0, 0, 0), (142, .invokevirtual 103, 3, 166, 1, 578, 0), (145, .ireturn, 1, 0, 0, 0, 0)]
def x_t_X11_isTray : List (Nat × x_Row) := [(0, .iload_n 1, 1, 0, 0, 0, 0), (1, .ifCond .lt 25, 3, 26, 0, 0, 0), (4, .iload_n 1, 1, 0, 0, 0, 0), (5, .aload_n 0, 1, 0, 0, 0, 0), (6, .getfield 22, 3, 10, 3, 498, 0), (9, .arraylength, 1, 0, 0, 0, 0), (10, .if_icmp .ge 16, 3, 26, 0, 0, 0), (13, .aload_n 0, 1, 0, 0, 0, 0), (14, .getfield 22, 3, 10, 3, 498, 0), (17, .iload_n 1, 1, 0, 0, 0, 0), (18, .aaload, 1, 0, 0, 0, 0), (19, .ifnull 7, 3, 26, 0, 0, 0), (22, .iconst 1, 1, 0, 0, 0, 0), (23, .goto 4, 3, 27, 0, 0, 0), (26, .iconst 0, 1, 0, 0, 0, 0), (27, .ireturn, 1, 0, 0, 0, 0)]
def x_t_X11_wrongPlace : List (Nat × x_Row) := [(0, .aload_n 0, 1, 0, 0, 0, 0), (1, .iload_n 1, 1, 0, 0, 0, 0), (2, .invokevirtual 92, 3, 111, 2, 566, 0), (5, .ifCond .ne 5, 3, 10, 0, 0, 0), (8, .iconst 1, 1, 0, 0, 0, 0), (9, .ireturn, 1, 0, 0, 0, 0), (10, .aload_n 0, 1, 0, 0, 0, 0), (11, .getfield 22, 3, 10, 3, 498, 0), (14, .iload_n 1, 1, 0, 0, 0, 0), (15, .aaload, 1, 0, 0, 0, 0), (16, .invokevirtual 127, 3, 100, 1, 590, 0), (19, .ifCond .eq 5, 3, 24, 0, 0, 0), (22, .iconst 2, 1, 0, 0, 0, 0), (23, .ireturn, 1, 0, 0, 0, 0), (24, .iload_n 2, 1, 0, 0, 0, 0), (25, .ifCond .lt 21, 3, 46, 0, 0, 0), (28, .aload_n 0, 1, 0, 0, 0, 0), (29, .getfield 22, 3, 10, 3, 498, 0), (32, .iload_n 1, 1, 0, 0, 0, 0), (33, .aaload, 1, 0, 0, 0, 0), (34, .iload_n 2, 1, 0, 0, 0, 0), (35, .iconst 1, 1, 0, 0, 0, 0), (36, .invokevirtual 133, 3, 101, 3, 594, 0), (39, .ifCond .eq 7, 3, 46, 0, 0, 0), (42, .iconst 0, 1, 0, 0, 0, 0), (43, .goto 4, 3, 47, 0, 0, 0), (46, .iconst 3, 1, 0, 0, 0, 0), (47, .ireturn, 1, 0, 0, 0, 0)]
def x_t_X11_feed : List (Nat × x_Row) := [(0, .aload_n 0, 1, 0, 0, 0, 0), (1, .getfield 30, 3, 10, 5, 500, 0), (4, .bipush 20, 2, 0, 0, 0, 0), (6, .iadd, 1, 0, 0, 0, 0), (7, .aload_n 0, 1, 0, 0, 0, 0), (8, .getfield 26, 3, 10, 4, 499, 0), (11, .arraylength, 1, 0, 0, 0, 0), (12, .if_icmp .le 5, 3, 17, 0, 0, 0), (15, .iconst (-1), 1, 0, 0, 0, 0), (16, .ireturn, 1, 0, 0, 0, 0), (17, .aload_n 0, 1, 0, 0, 0, 0), (18, .iload_n 1, 1, 0, 0, 0, 0), (19, .invokevirtual 143, 3, 114, 2, 625, 0), (22, .aload_n 0, 1, 0, 0, 0, 0), (23, .iload_n 2, 1, 0, 0, 0, 0), (24, .invokevirtual 143, 3, 114, 2, 625, 0), (27, .aload_n 0, 1, 0, 0, 0, 0), (28, .iload_n 3, 1, 0, 0, 0, 0), (29, .invokevirtual 143, 3, 114, 2, 625, 0), (32, .aload_n 0, 1, 0, 0, 0, 0), (33, .iload 4, 2, 0, 0, 0, 0), (35, .invokevirtual 143, 3, 114, 2, 625, 0), (38, .aload_n 0, 1, 0, 0, 0, 0), (39, .iload 5, 2, 0, 0, 0, 0), (41, .invokevirtual 143, 3, 114, 2, 625, 0), (44, .aload_n 0, 1, 0, 0, 0, 0), (45, .getfield 30, 3, 10, 5, 500, 0), (48, .ireturn, 1, 0, 0, 0, 0)]
def x_t_X11_feedOne : List (Nat × x_Row) := [(0, .bipush 24, 2, 0, 0, 0, 0), (2, .istore_n 2, 1, 0, 0, 0, 0), (3, .iload_n 2, 1, 0, 0, 0, 0), (4, .ifCond .lt 44, 3, 48, 0, 0, 0), (7, .aload_n 0, 1, 0, 0, 0, 0), (8, .getfield 30, 3, 10, 5, 500, 0), (11, .aload_n 0, 1, 0, 0, 0, 0), (12, .getfield 26, 3, 10, 4, 499, 0), (15, .arraylength, 1, 0, 0, 0, 0), (16, .if_icmp .ge 32, 3, 48, 0, 0, 0), (19, .aload_n 0, 1, 0, 0, 0, 0), (20, .getfield 26, 3, 10, 4, 499, 0), (23, .aload_n 0, 1, 0, 0, 0, 0), (24, .getfield 30, 3, 10, 5, 500, 0), (27, .iload_n 1, 1, 0, 0, 0, 0), (28, .iload_n 2, 1, 0, 0, 0, 0), (29, .iushr, 1, 0, 0, 0, 0), (30, .i2b, 1, 0, 0, 0, 0), (31, .bastore, 1, 0, 0, 0, 0), (32, .aload_n 0, 1, 0, 0, 0, 0), (33, .dup, 1, 0, 0, 0, 0), (34, .getfield 30, 3, 10, 5, 500, 0), (37, .iconst 1, 1, 0, 0, 0, 0), (38, .iadd, 1, 0, 0, 0, 0), (39, .putfield 30, 3, 10, 5, 500, 0), (42, .iinc 2 (-8), 3, 0, 0, 0, 0), (45, .goto (-42), 3, 3, 0, 0, 0), (48, .return_, 1, 0, 0, 0, 0)]
def x_t_X11_river : List (Nat × x_Row) := [(0, .iload_n 1, 1, 0, 0, 0, 0), (1, .ifCond .lt 11, 3, 12, 0, 0, 0), (4, .iload_n 1, 1, 0, 0, 0, 0), (5, .aload_n 0, 1, 0, 0, 0, 0), (6, .getfield 30, 3, 10, 5, 500, 0), (9, .if_icmp .le 9, 3, 18, 0, 0, 0), (12, .aload_n 0, 1, 0, 0, 0, 0), (13, .iconst 1, 1, 0, 0, 0, 0), (14, .invokevirtual 115, 3, 167, 2, 606, 0), (17, .ireturn, 1, 0, 0, 0, 0), (18, .new 147, 3, 5, 0, 633, 0), (21, .dup, 1, 0, 0, 0, 0), (22, .new 149, 3, 8, 0, 635, 0), (25, .dup, 1, 0, 0, 0, 0), (26, .aload_n 0, 1, 0, 0, 0, 0), (27, .getfield 26, 3, 10, 4, 499, 0), (30, .iload_n 1, 1, 0, 0, 0, 0), (31, .invokespecial 151, 3, 86, 3, 637, 0), (34, .invokespecial 154, 3, 58, 2, 708, 0), (37, .astore_n 2, 1, 0, 0, 0, 0), (38, .aload_n 2, 1, 0, 0, 0, 0), (39, .invokevirtual 157, 3, 59, 1, 741, 0), (42, .istore_n 3, 1, 0, 0, 0, 0), (43, .aload_n 0, 1, 0, 0, 0, 0), (44, .aload_n 2, 1, 0, 0, 0, 0), (45, .getfield 160, 3, 5, 0, 715, 0), (48, .invokevirtual 164, 3, 117, 2, 847, 0), (51, .iload_n 3, 1, 0, 0, 0, 0), (52, .ifCond .ne 10, 3, 62, 0, 0, 0), (55, .aload_n 0, 1, 0, 0, 0, 0), (56, .bipush 9, 2, 0, 0, 0, 0), (58, .invokevirtual 115, 3, 167, 2, 606, 0), (61, .ireturn, 1, 0, 0, 0, 0), (62, .aload_n 0, 1, 0, 0, 0, 0), (63, .aload_n 2, 1, 0, 0, 0, 0), (64, .getfield 167, 3, 5, 1, 717, 0), (67, .putfield 36, 3, 10, 6, 501, 0), (70, .aload_n 0, 1, 0, 0, 0, 0), (71, .aconst_null, 1, 0, 0, 0, 0), (72, .putfield 40, 3, 10, 7, 502, 0), (75, .aload_n 0, 1, 0, 0, 0, 0), (76, .aload_n 0, 1, 0, 0, 0, 0), (77, .getfield 36, 3, 10, 6, 501, 0), (80, .getfield 168, 3, 4, 7, 297, 0), (83, .getfield 172, 3, 3, 0, 233, 0), (86, .invokevirtual 177, 3, 164, 2, 851, 0), (89, .ireturn, 1, 0, 0, 0, 0)]
def x_t_X11_rules : List (Nat × x_Row) := [(0, .iload_n 1, 1, 0, 0, 0, 0), (1, .ifCond .lt 18, 3, 19, 0, 0, 0), (4, .iload_n 1, 1, 0, 0, 0, 0), (5, .aload_n 0, 1, 0, 0, 0, 0), (6, .getfield 30, 3, 10, 5, 500, 0), (9, .if_icmp .gt 10, 3, 19, 0, 0, 0), (12, .iload_n 1, 1, 0, 0, 0, 0), (13, .sipush 300, 3, 0, 0, 0, 0), (16, .if_icmp .le 9, 3, 25, 0, 0, 0), (19, .aload_n 0, 1, 0, 0, 0, 0), (20, .iconst 1, 1, 0, 0, 0, 0), (21, .invokevirtual 115, 3, 167, 2, 606, 0), (24, .ireturn, 1, 0, 0, 0, 0), (25, .new 180, 3, 7, 0, 859, 0), (28, .dup, 1, 0, 0, 0, 0), (29, .new 149, 3, 8, 0, 635, 0), (32, .dup, 1, 0, 0, 0, 0), (33, .aload_n 0, 1, 0, 0, 0, 0), (34, .getfield 26, 3, 10, 4, 499, 0), (37, .iload_n 1, 1, 0, 0, 0, 0), (38, .invokespecial 151, 3, 86, 3, 637, 0), (41, .new 54, 3, 6, 0, 328, 0), (44, .dup, 1, 0, 0, 0, 0), (45, .iload_n 1, 1, 0, 0, 0, 0), (46, .invokespecial 182, 3, 69, 2, 862, 0), (49, .invokespecial 184, 3, 75, 3, 893, 0), (52, .astore_n 2, 1, 0, 0, 0, 0), (53, .aload_n 2, 1, 0, 0, 0, 0), (54, .invokevirtual 187, 3, 76, 1, 909, 0), (57, .istore_n 3, 1, 0, 0, 0, 0), (58, .aload_n 0, 1, 0, 0, 0, 0), (59, .aload_n 2, 1, 0, 0, 0, 0), (60, .getfield 188, 3, 7, 0, 898, 0), (63, .invokevirtual 164, 3, 117, 2, 847, 0), (66, .iload_n 3, 1, 0, 0, 0, 0), (67, .ifCond .ne 10, 3, 77, 0, 0, 0), (70, .aload_n 0, 1, 0, 0, 0, 0), (71, .bipush 9, 2, 0, 0, 0, 0), (73, .invokevirtual 115, 3, 167, 2, 606, 0), (76, .ireturn, 1, 0, 0, 0, 0), (77, .aload_n 0, 1, 0, 0, 0, 0), (78, .aload_n 2, 1, 0, 0, 0, 0), (79, .getfield 189, 3, 7, 1, 900, 0), (82, .putfield 40, 3, 10, 7, 502, 0), (85, .aload_n 0, 1, 0, 0, 0, 0), (86, .aload_n 0, 1, 0, 0, 0, 0), (87, .getfield 40, 3, 10, 7, 502, 0), (90, .getfield 190, 3, 6, 0, 871, 0), (93, .invokevirtual 177, 3, 164, 2, 851, 0), (96, .ireturn, 1, 0, 0, 0, 0)]
def x_t_X11_endText : List (Nat × x_Row) := [(0, .aload_n 0, 1, 0, 0, 0, 0), (1, .iconst 0, 1, 0, 0, 0, 0), (2, .putfield 30, 3, 10, 5, 500, 0), (5, .aload_n 0, 1, 0, 0, 0, 0), (6, .aload_n 1, 1, 0, 0, 0, 0), (7, .getfield 191, 3, 8, 10, 680, 0), (10, .putfield 44, 3, 10, 8, 503, 0), (13, .aload_n 0, 1, 0, 0, 0, 0), (14, .aload_n 1, 1, 0, 0, 0, 0), (15, .getfield 194, 3, 8, 11, 682, 0), (18, .putfield 47, 3, 10, 9, 504, 0), (21, .return_, 1, 0, 0, 0, 0)]
def x_t_X11_fault : List (Nat × x_Row) := [(0, .iload_n 1, 1, 0, 0, 0, 0), (1, .ifCond .ne 8, 3, 9, 0, 0, 0), (4, .aload_n 0, 1, 0, 0, 0, 0), (5, .getfield 44, 3, 10, 8, 503, 0), (8, .ireturn, 1, 0, 0, 0, 0), (9, .iload_n 1, 1, 0, 0, 0, 0), (10, .iconst 1, 1, 0, 0, 0, 0), (11, .if_icmp .ne 10, 3, 21, 0, 0, 0), (14, .aload_n 0, 1, 0, 0, 0, 0), (15, .getfield 47, 3, 10, 9, 504, 0), (18, .goto 4, 3, 22, 0, 0, 0), (21, .iconst (-1), 1, 0, 0, 0, 0), (22, .ireturn, 1, 0, 0, 0, 0)]
def x_t_X11_told : List (Nat × x_Row) := [(0, .iload_n 1, 1, 0, 0, 0, 0), (1, .tableswitch 160 0 7 #[47, 59, 74, 89, 112, 124, 136, 148], 47, 0, 0, 0, 0), (48, .aload_n 0, 1, 0, 0, 0, 0), (49, .aload_n 0, 1, 0, 0, 0, 0), (50, .getfield 36, 3, 10, 6, 501, 0), (53, .getfield 195, 3, 4, 0, 273, 0), (56, .invokevirtual 177, 3, 164, 2, 851, 0), (59, .ireturn, 1, 0, 0, 0, 0), (60, .aload_n 0, 1, 0, 0, 0, 0), (61, .aload_n 0, 1, 0, 0, 0, 0), (62, .getfield 36, 3, 10, 6, 501, 0), (65, .getfield 168, 3, 4, 7, 297, 0), (68, .getfield 172, 3, 3, 0, 233, 0), (71, .invokevirtual 177, 3, 164, 2, 851, 0), (74, .ireturn, 1, 0, 0, 0, 0), (75, .aload_n 0, 1, 0, 0, 0, 0), (76, .aload_n 0, 1, 0, 0, 0, 0), (77, .getfield 36, 3, 10, 6, 501, 0), (80, .getfield 198, 3, 4, 9, 305, 0), (83, .getfield 172, 3, 3, 0, 233, 0), (86, .invokevirtual 177, 3, 164, 2, 851, 0), (89, .ireturn, 1, 0, 0, 0, 0), (90, .aload_n 0, 1, 0, 0, 0, 0), (91, .aload_n 0, 1, 0, 0, 0, 0), (92, .getfield 40, 3, 10, 7, 502, 0), (95, .ifnonnull 7, 3, 102, 0, 0, 0), (98, .iconst 0, 1, 0, 0, 0, 0), (99, .goto 10, 3, 109, 0, 0, 0), (102, .aload_n 0, 1, 0, 0, 0, 0), (103, .getfield 40, 3, 10, 7, 502, 0), (106, .getfield 190, 3, 6, 0, 871, 0), (109, .invokevirtual 177, 3, 164, 2, 851, 0), (112, .ireturn, 1, 0, 0, 0, 0), (113, .aload_n 0, 1, 0, 0, 0, 0), (114, .aload_n 0, 1, 0, 0, 0, 0), (115, .getfield 36, 3, 10, 6, 501, 0), (118, .getfield 201, 3, 4, 3, 283, 0), (121, .invokevirtual 177, 3, 164, 2, 851, 0), (124, .ireturn, 1, 0, 0, 0, 0), (125, .aload_n 0, 1, 0, 0, 0, 0), (126, .aload_n 0, 1, 0, 0, 0, 0), (127, .getfield 36, 3, 10, 6, 501, 0), (130, .getfield 204, 3, 4, 4, 286, 0), (133, .invokevirtual 177, 3, 164, 2, 851, 0), (136, .ireturn, 1, 0, 0, 0, 0), (137, .aload_n 0, 1, 0, 0, 0, 0), (138, .aload_n 0, 1, 0, 0, 0, 0), (139, .getfield 36, 3, 10, 6, 501, 0), (142, .getfield 207, 3, 4, 5, 289, 0), (145, .invokevirtual 177, 3, 164, 2, 851, 0), (148, .ireturn, 1, 0, 0, 0, 0), (149, .aload_n 0, 1, 0, 0, 0, 0), (150, .aload_n 0, 1, 0, 0, 0, 0), (151, .getfield 36, 3, 10, 6, 501, 0), (154, .getfield 210, 3, 4, 6, 292, 0), (157, .invokevirtual 177, 3, 164, 2, 851, 0), (160, .ireturn, 1, 0, 0, 0, 0), (161, .aload_n 0, 1, 0, 0, 0, 0), (162, .iconst 1, 1, 0, 0, 0, 0), (163, .invokevirtual 115, 3, 167, 2, 606, 0), (166, .ireturn, 1, 0, 0, 0, 0)]
def x_t_X11_ship : List (Nat × x_Row) := [(0, .aload_n 0, 1, 0, 0, 0, 0), (1, .iload_n 1, 1, 0, 0, 0, 0), (2, .invokevirtual 213, 3, 125, 2, 1001, 0), (5, .ifCond .ne 9, 3, 14, 0, 0, 0), (8, .aload_n 0, 1, 0, 0, 0, 0), (9, .iconst 1, 1, 0, 0, 0, 0), (10, .invokevirtual 115, 3, 167, 2, 606, 0), (13, .ireturn, 1, 0, 0, 0, 0), (14, .iload_n 2, 1, 0, 0, 0, 0), (15, .tableswitch 123 0 4 #[33, 47, 64, 81, 98], 33, 0, 0, 0, 0), (48, .aload_n 0, 1, 0, 0, 0, 0), (49, .aload_n 0, 1, 0, 0, 0, 0), (50, .getfield 36, 3, 10, 6, 501, 0), (53, .getfield 216, 3, 4, 8, 300, 0), (56, .iload_n 1, 1, 0, 0, 0, 0), (57, .iaload, 1, 0, 0, 0, 0), (58, .invokevirtual 177, 3, 164, 2, 851, 0), (61, .ireturn, 1, 0, 0, 0, 0), (62, .aload_n 0, 1, 0, 0, 0, 0), (63, .aload_n 0, 1, 0, 0, 0, 0), (64, .getfield 36, 3, 10, 6, 501, 0), (67, .getfield 168, 3, 4, 7, 297, 0), (70, .getfield 219, 3, 3, 2, 240, 0), (73, .iload_n 1, 1, 0, 0, 0, 0), (74, .iaload, 1, 0, 0, 0, 0), (75, .invokevirtual 177, 3, 164, 2, 851, 0), (78, .ireturn, 1, 0, 0, 0, 0), (79, .aload_n 0, 1, 0, 0, 0, 0), (80, .aload_n 0, 1, 0, 0, 0, 0), (81, .getfield 36, 3, 10, 6, 501, 0), (84, .getfield 168, 3, 4, 7, 297, 0), (87, .getfield 222, 3, 3, 3, 244, 0), (90, .iload_n 1, 1, 0, 0, 0, 0), (91, .iaload, 1, 0, 0, 0, 0), (92, .invokevirtual 177, 3, 164, 2, 851, 0), (95, .ireturn, 1, 0, 0, 0, 0), (96, .aload_n 0, 1, 0, 0, 0, 0), (97, .aload_n 0, 1, 0, 0, 0, 0), (98, .getfield 36, 3, 10, 6, 501, 0), (101, .getfield 168, 3, 4, 7, 297, 0), (104, .getfield 225, 3, 3, 4, 248, 0), (107, .iload_n 1, 1, 0, 0, 0, 0), (108, .iaload, 1, 0, 0, 0, 0), (109, .invokevirtual 177, 3, 164, 2, 851, 0), (112, .ireturn, 1, 0, 0, 0, 0), (113, .aload_n 0, 1, 0, 0, 0, 0), (114, .aload_n 0, 1, 0, 0, 0, 0), (115, .getfield 36, 3, 10, 6, 501, 0), (118, .getfield 168, 3, 4, 7, 297, 0), (121, .getfield 228, 3, 3, 5, 253, 0), (124, .iload_n 1, 1, 0, 0, 0, 0), (125, .baload, 1, 0, 0, 0, 0), (126, .ifCond .eq 7, 3, 133, 0, 0, 0), (129, .iconst 1, 1, 0, 0, 0, 0), (130, .goto 4, 3, 134, 0, 0, 0), (133, .iconst 0, 1, 0, 0, 0, 0), (134, .invokevirtual 177, 3, 164, 2, 851, 0), (137, .ireturn, 1, 0, 0, 0, 0), (138, .aload_n 0, 1, 0, 0, 0, 0), (139, .iconst 1, 1, 0, 0, 0, 0), (140, .invokevirtual 115, 3, 167, 2, 606, 0), (143, .ireturn, 1, 0, 0, 0, 0)]
def x_t_X11_cart : List (Nat × x_Row) := [(0, .aload_n 0, 1, 0, 0, 0, 0), (1, .iload_n 1, 1, 0, 0, 0, 0), (2, .invokevirtual 232, 3, 126, 2, 1009, 0), (5, .ifCond .ne 9, 3, 14, 0, 0, 0), (8, .aload_n 0, 1, 0, 0, 0, 0), (9, .iconst 1, 1, 0, 0, 0, 0), (10, .invokevirtual 115, 3, 167, 2, 606, 0), (13, .ireturn, 1, 0, 0, 0, 0), (14, .iload_n 2, 1, 0, 0, 0, 0), (15, .tableswitch 76 0 2 #[25, 42, 59], 25, 0, 0, 0, 0), (40, .aload_n 0, 1, 0, 0, 0, 0), (41, .aload_n 0, 1, 0, 0, 0, 0), (42, .getfield 36, 3, 10, 6, 501, 0), (45, .getfield 198, 3, 4, 9, 305, 0), (48, .getfield 219, 3, 3, 2, 240, 0), (51, .iload_n 1, 1, 0, 0, 0, 0), (52, .iaload, 1, 0, 0, 0, 0), (53, .invokevirtual 177, 3, 164, 2, 851, 0), (56, .ireturn, 1, 0, 0, 0, 0), (57, .aload_n 0, 1, 0, 0, 0, 0), (58, .aload_n 0, 1, 0, 0, 0, 0), (59, .getfield 36, 3, 10, 6, 501, 0), (62, .getfield 198, 3, 4, 9, 305, 0), (65, .getfield 222, 3, 3, 3, 244, 0), (68, .iload_n 1, 1, 0, 0, 0, 0), (69, .iaload, 1, 0, 0, 0, 0), (70, .invokevirtual 177, 3, 164, 2, 851, 0), (73, .ireturn, 1, 0, 0, 0, 0), (74, .aload_n 0, 1, 0, 0, 0, 0), (75, .aload_n 0, 1, 0, 0, 0, 0), (76, .getfield 36, 3, 10, 6, 501, 0), (79, .getfield 198, 3, 4, 9, 305, 0), (82, .getfield 225, 3, 3, 4, 248, 0), (85, .iload_n 1, 1, 0, 0, 0, 0), (86, .iaload, 1, 0, 0, 0, 0), (87, .invokevirtual 177, 3, 164, 2, 851, 0), (90, .ireturn, 1, 0, 0, 0, 0), (91, .aload_n 0, 1, 0, 0, 0, 0), (92, .iconst 1, 1, 0, 0, 0, 0), (93, .invokevirtual 115, 3, 167, 2, 606, 0), (96, .ireturn, 1, 0, 0, 0, 0)]
def x_t_X11_nextShip : List (Nat × x_Row) := [(0, .aload_n 0, 1, 0, 0, 0, 0), (1, .iload_n 1, 1, 0, 0, 0, 0), (2, .invokevirtual 213, 3, 125, 2, 1001, 0), (5, .ifCond .ne 10, 3, 15, 0, 0, 0), (8, .aload_n 0, 1, 0, 0, 0, 0), (9, .bipush 6, 2, 0, 0, 0, 0), (11, .invokevirtual 115, 3, 167, 2, 606, 0), (14, .ireturn, 1, 0, 0, 0, 0), (15, .aload_n 0, 1, 0, 0, 0, 0), (16, .getfield 80, 3, 10, 16, 511, 0), (19, .aload_n 0, 1, 0, 0, 0, 0), (20, .getfield 36, 3, 10, 6, 501, 0), (23, .iconst 0, 1, 0, 0, 0, 0), (24, .iconst (-1), 1, 0, 0, 0, 0), (25, .iconst 0, 1, 0, 0, 0, 0), (26, .invokevirtual 235, 3, 10, 5, 1017, 0), (29, .aload_n 0, 1, 0, 0, 0, 0), (30, .aload_n 0, 1, 0, 0, 0, 0), (31, .getfield 80, 3, 10, 16, 511, 0), (34, .getfield 239, 3, 1, 2, 376, 0), (37, .getfield 240, 3, 3, 1, 236, 0), (40, .iload_n 1, 1, 0, 0, 0, 0), (41, .iaload, 1, 0, 0, 0, 0), (42, .invokevirtual 177, 3, 164, 2, 851, 0), (45, .ireturn, 1, 0, 0, 0, 0)]
def x_t_X11_nextCart : List (Nat × x_Row) := [(0, .aload_n 0, 1, 0, 0, 0, 0), (1, .iload_n 1, 1, 0, 0, 0, 0), (2, .invokevirtual 232, 3, 126, 2, 1009, 0), (5, .ifCond .ne 10, 3, 15, 0, 0, 0), (8, .aload_n 0, 1, 0, 0, 0, 0), (9, .bipush 6, 2, 0, 0, 0, 0), (11, .invokevirtual 115, 3, 167, 2, 606, 0), (14, .ireturn, 1, 0, 0, 0, 0), (15, .aload_n 0, 1, 0, 0, 0, 0), (16, .getfield 80, 3, 10, 16, 511, 0), (19, .aload_n 0, 1, 0, 0, 0, 0), (20, .getfield 36, 3, 10, 6, 501, 0), (23, .iconst (-1), 1, 0, 0, 0, 0), (24, .invokevirtual 243, 3, 11, 3, 1034, 0), (27, .aload_n 0, 1, 0, 0, 0, 0), (28, .aload_n 0, 1, 0, 0, 0, 0), (29, .getfield 80, 3, 10, 16, 511, 0), (32, .getfield 247, 3, 1, 3, 378, 0), (35, .getfield 240, 3, 3, 1, 236, 0), (38, .iload_n 1, 1, 0, 0, 0, 0), (39, .iaload, 1, 0, 0, 0, 0), (40, .invokevirtual 177, 3, 164, 2, 851, 0), (43, .ireturn, 1, 0, 0, 0, 0)]
def x_t_X11_isPort : List (Nat × x_Row) := [(0, .iload_n 1, 1, 0, 0, 0, 0), (1, .ifCond .lt 18, 3, 19, 0, 0, 0), (4, .iload_n 1, 1, 0, 0, 0, 0), (5, .aload_n 0, 1, 0, 0, 0, 0), (6, .getfield 36, 3, 10, 6, 501, 0), (9, .getfield 195, 3, 4, 0, 273, 0), (12, .if_icmp .ge 7, 3, 19, 0, 0, 0), (15, .iconst 1, 1, 0, 0, 0, 0), (16, .goto 4, 3, 20, 0, 0, 0), (19, .iconst 0, 1, 0, 0, 0, 0), (20, .ireturn, 1, 0, 0, 0, 0)]
def x_t_X11_isShip : List (Nat × x_Row) := [(0, .iload_n 1, 1, 0, 0, 0, 0), (1, .ifCond .lt 21, 3, 22, 0, 0, 0), (4, .iload_n 1, 1, 0, 0, 0, 0), (5, .aload_n 0, 1, 0, 0, 0, 0), (6, .getfield 36, 3, 10, 6, 501, 0), (9, .getfield 168, 3, 4, 7, 297, 0), (12, .getfield 172, 3, 3, 0, 233, 0), (15, .if_icmp .ge 7, 3, 22, 0, 0, 0), (18, .iconst 1, 1, 0, 0, 0, 0), (19, .goto 4, 3, 23, 0, 0, 0), (22, .iconst 0, 1, 0, 0, 0, 0), (23, .ireturn, 1, 0, 0, 0, 0)]
def x_t_X11_isCart : List (Nat × x_Row) := [(0, .iload_n 1, 1, 0, 0, 0, 0), (1, .ifCond .lt 21, 3, 22, 0, 0, 0), (4, .iload_n 1, 1, 0, 0, 0, 0), (5, .aload_n 0, 1, 0, 0, 0, 0), (6, .getfield 36, 3, 10, 6, 501, 0), (9, .getfield 198, 3, 4, 9, 305, 0), (12, .getfield 172, 3, 3, 0, 233, 0), (15, .if_icmp .ge 7, 3, 22, 0, 0, 0), (18, .iconst 1, 1, 0, 0, 0, 0), (19, .goto 4, 3, 23, 0, 0, 0), (22, .iconst 0, 1, 0, 0, 0, 0), (23, .ireturn, 1, 0, 0, 0, 0)]
def x_t_X11_sound : List (Nat × x_Row) := [(0, .aload_n 0, 1, 0, 0, 0, 0), (1, .iload_n 1, 1, 0, 0, 0, 0), (2, .invokevirtual 248, 3, 124, 2, 1042, 0), (5, .ifCond .eq 19, 3, 24, 0, 0, 0), (8, .aload_n 0, 1, 0, 0, 0, 0), (9, .aload_n 0, 1, 0, 0, 0, 0), (10, .getfield 36, 3, 10, 6, 501, 0), (13, .getfield 251, 3, 4, 2, 278, 0), (16, .iload_n 1, 1, 0, 0, 0, 0), (17, .laload, 1, 0, 0, 0, 0), (18, .invokevirtual 123, 3, 165, 2, 610, 0), (21, .goto 9, 3, 30, 0, 0, 0), (24, .aload_n 0, 1, 0, 0, 0, 0), (25, .iconst 1, 1, 0, 0, 0, 0), (26, .invokevirtual 115, 3, 167, 2, 606, 0), (29, .i2l, 1, 0, 0, 0, 0), (30, .lreturn, 1, 0, 0, 0, 0)]
def x_t_X11_heard : List (Nat × x_Row) := [(0, .aload_n 0, 1, 0, 0, 0, 0), (1, .iload_n 1, 1, 0, 0, 0, 0), (2, .invokevirtual 248, 3, 124, 2, 1042, 0), (5, .ifCond .eq 18, 3, 23, 0, 0, 0), (8, .aload_n 0, 1, 0, 0, 0, 0), (9, .aload_n 0, 1, 0, 0, 0, 0), (10, .getfield 36, 3, 10, 6, 501, 0), (13, .iload_n 1, 1, 0, 0, 0, 0), (14, .invokevirtual 254, 3, 52, 2, 1050, 0), (17, .invokevirtual 123, 3, 165, 2, 610, 0), (20, .goto 9, 3, 29, 0, 0, 0), (23, .aload_n 0, 1, 0, 0, 0, 0), (24, .iconst 1, 1, 0, 0, 0, 0), (25, .invokevirtual 115, 3, 167, 2, 606, 0), (28, .i2l, 1, 0, 0, 0, 0), (29, .lreturn, 1, 0, 0, 0, 0)]
def x_t_X11_together : List (Nat × x_Row) := [(0, .aload_n 0, 1, 0, 0, 0, 0), (1, .iload_n 1, 1, 0, 0, 0, 0), (2, .invokevirtual 248, 3, 124, 2, 1042, 0), (5, .ifCond .eq 21, 3, 26, 0, 0, 0), (8, .aload_n 0, 1, 0, 0, 0, 0), (9, .iload_n 2, 1, 0, 0, 0, 0), (10, .invokevirtual 248, 3, 124, 2, 1042, 0), (13, .ifCond .eq 13, 3, 26, 0, 0, 0), (16, .iload_n 3, 1, 0, 0, 0, 0), (17, .ifCond .lt 9, 3, 26, 0, 0, 0), (20, .iload_n 3, 1, 0, 0, 0, 0), (21, .bipush 12, 2, 0, 0, 0, 0), (23, .if_icmp .le 10, 3, 33, 0, 0, 0), (26, .aload_n 0, 1, 0, 0, 0, 0), (27, .iconst 1, 1, 0, 0, 0, 0), (28, .invokevirtual 115, 3, 167, 2, 606, 0), (31, .i2l, 1, 0, 0, 0, 0), (32, .lreturn, 1, 0, 0, 0, 0), (33, .aload_n 0, 1, 0, 0, 0, 0), (34, .aload_n 0, 1, 0, 0, 0, 0), (35, .getfield 36, 3, 10, 6, 501, 0), (38, .iload_n 1, 1, 0, 0, 0, 0), (39, .iload_n 2, 1, 0, 0, 0, 0), (40, .iload_n 3, 1, 0, 0, 0, 0), (41, .invokevirtual 258, 3, 53, 4, 1061, 0), (44, .invokevirtual 123, 3, 165, 2, 610, 0), (47, .lreturn, 1, 0, 0, 0, 0)]
def x_t_X11_lasts : List (Nat × x_Row) := [(0, .aload_n 0, 1, 0, 0, 0, 0), (1, .iload_n 1, 1, 0, 0, 0, 0), (2, .invokevirtual 248, 3, 124, 2, 1042, 0), (5, .ifCond .ne 9, 3, 14, 0, 0, 0), (8, .aload_n 0, 1, 0, 0, 0, 0), (9, .iconst 1, 1, 0, 0, 0, 0), (10, .invokevirtual 115, 3, 167, 2, 606, 0), (13, .ireturn, 1, 0, 0, 0, 0), (14, .aload_n 0, 1, 0, 0, 0, 0), (15, .bipush 64, 2, 0, 0, 0, 0), (17, .aload_n 0, 1, 0, 0, 0, 0), (18, .getfield 36, 3, 10, 6, 501, 0), (21, .iload_n 1, 1, 0, 0, 0, 0), (22, .invokevirtual 254, 3, 52, 2, 1050, 0), (25, .invokestatic 262, 3, 314, 1, 1070, 0), (28, .isub, 1, 0, 0, 0, 0), (29, .invokevirtual 177, 3, 164, 2, 851, 0), (32, .ireturn, 1, 0, 0, 0, 0)]
def x_t_X11_far : List (Nat × x_Row) := [(0, .aload_n 0, 1, 0, 0, 0, 0), (1, .iload_n 1, 1, 0, 0, 0, 0), (2, .invokevirtual 248, 3, 124, 2, 1042, 0), (5, .ifCond .eq 11, 3, 16, 0, 0, 0), (8, .aload_n 0, 1, 0, 0, 0, 0), (9, .iload_n 2, 1, 0, 0, 0, 0), (10, .invokevirtual 248, 3, 124, 2, 1042, 0), (13, .ifCond .ne 9, 3, 22, 0, 0, 0), (16, .aload_n 0, 1, 0, 0, 0, 0), (17, .iconst 1, 1, 0, 0, 0, 0), (18, .invokevirtual 115, 3, 167, 2, 606, 0), (21, .ireturn, 1, 0, 0, 0, 0), (22, .aload_n 0, 1, 0, 0, 0, 0), (23, .aload_n 0, 1, 0, 0, 0, 0), (24, .getfield 36, 3, 10, 6, 501, 0), (27, .iload_n 1, 1, 0, 0, 0, 0), (28, .invokevirtual 254, 3, 52, 2, 1050, 0), (31, .aload_n 0, 1, 0, 0, 0, 0), (32, .getfield 36, 3, 10, 6, 501, 0), (35, .iload_n 2, 1, 0, 0, 0, 0), (36, .invokevirtual 254, 3, 52, 2, 1050, 0), (39, .lxor, 1, 0, 0, 0, 0), (40, .invokestatic 268, 3, 316, 1, 1081, 0), (43, .invokevirtual 177, 3, 164, 2, 851, 0), (46, .ireturn, 1, 0, 0, 0, 0)]
def x_t_X11_readings : List (Nat × x_Row) := [(0, .lload_n 1, 1, 0, 0, 0, 0), (1, .lconst 1, 1, 0, 0, 0, 0), (2, .lcmp, 1, 0, 0, 0, 0), (3, .ifCond .ge 9, 3, 12, 0, 0, 0), (6, .aload_n 0, 1, 0, 0, 0, 0), (7, .iconst 1, 1, 0, 0, 0, 0), (8, .invokevirtual 115, 3, 167, 2, 606, 0), (11, .ireturn, 1, 0, 0, 0, 0), (12, .aload_n 0, 1, 0, 0, 0, 0), (13, .iconst 0, 1, 0, 0, 0, 0), (14, .putfield 67, 3, 10, 14, 509, 0), (17, .iconst 0, 1, 0, 0, 0, 0), (18, .istore_n 3, 1, 0, 0, 0, 0), (19, .iload_n 3, 1, 0, 0, 0, 0), (20, .aload_n 0, 1, 0, 0, 0, 0), (21, .getfield 36, 3, 10, 6, 501, 0), (24, .getfield 195, 3, 4, 0, 273, 0), (27, .if_icmp .ge 30, 3, 57, 0, 0, 0), (30, .aload_n 0, 1, 0, 0, 0, 0), (31, .getfield 36, 3, 10, 6, 501, 0), (34, .iload_n 3, 1, 0, 0, 0, 0), (35, .invokevirtual 254, 3, 52, 2, 1050, 0), (38, .lload_n 1, 1, 0, 0, 0, 0), (39, .lcmp, 1, 0, 0, 0, 0), (40, .ifCond .ne 11, 3, 51, 0, 0, 0), (43, .aload_n 0, 1, 0, 0, 0, 0), (44, .iload_n 3, 1, 0, 0, 0, 0), (45, .bipush 6, 2, 0, 0, 0, 0), (47, .iconst 0, 1, 0, 0, 0, 0), (48, .invokevirtual 271, 3, 133, 4, 1091, 0), (51, .iinc 3 1, 3, 0, 0, 0, 0), (54, .goto (-35), 3, 19, 0, 0, 0), (57, .iconst 0, 1, 0, 0, 0, 0), (58, .istore_n 3, 1, 0, 0, 0, 0), (59, .iload_n 3, 1, 0, 0, 0, 0), (60, .aload_n 0, 1, 0, 0, 0, 0), (61, .getfield 36, 3, 10, 6, 501, 0), (64, .getfield 195, 3, 4, 0, 273, 0), (67, .if_icmp .ge 81, 3, 148, 0, 0, 0), (70, .iconst 0, 1, 0, 0, 0, 0), (71, .istore 4, 2, 0, 0, 0, 0), (73, .iload 4, 2, 0, 0, 0, 0), (75, .aload_n 0, 1, 0, 0, 0, 0), (76, .getfield 36, 3, 10, 6, 501, 0), (79, .getfield 195, 3, 4, 0, 273, 0), (82, .if_icmp .ge 60, 3, 142, 0, 0, 0), (85, .aload_n 0, 1, 0, 0, 0, 0), (86, .getfield 36, 3, 10, 6, 501, 0), (89, .iload_n 3, 1, 0, 0, 0, 0), (90, .iload 4, 2, 0, 0, 0, 0), (92, .invokevirtual 275, 3, 54, 3, 1095, 0), (95, .istore 5, 2, 0, 0, 0, 0), (97, .iload 5, 2, 0, 0, 0, 0), (99, .bipush 12, 2, 0, 0, 0, 0), (101, .if_icmp .gt 35, 3, 136, 0, 0, 0), (104, .aload_n 0, 1, 0, 0, 0, 0), (105, .getfield 36, 3, 10, 6, 501, 0), (108, .iload_n 3, 1, 0, 0, 0, 0), (109, .iload 4, 2, 0, 0, 0, 0), (111, .iload 5, 2, 0, 0, 0, 0), (113, .invokevirtual 258, 3, 53, 4, 1061, 0), (116, .lload_n 1, 1, 0, 0, 0, 0), (117, .lcmp, 1, 0, 0, 0, 0), (118, .ifCond .ne 12, 3, 130, 0, 0, 0), (121, .aload_n 0, 1, 0, 0, 0, 0), (122, .iload_n 3, 1, 0, 0, 0, 0), (123, .iload 4, 2, 0, 0, 0, 0), (125, .iload 5, 2, 0, 0, 0, 0), (127, .invokevirtual 271, 3, 133, 4, 1091, 0), (130, .iinc 5 1, 3, 0, 0, 0, 0), (133, .goto (-36), 3, 97, 0, 0, 0), (136, .iinc 4 1, 3, 0, 0, 0, 0), (139, .goto (-66), 3, 73, 0, 0, 0), (142, .iinc 3 1, 3, 0, 0, 0, 0), (145, .goto (-86), 3, 59, 0, 0, 0), (148, .aload_n 0, 1, 0, 0, 0, 0), (149, .aload_n 0, 1, 0, 0, 0, 0), (150, .getfield 67, 3, 10, 14, 509, 0), (153, .invokevirtual 177, 3, 164, 2, 851, 0), (156, .ireturn, 1, 0, 0, 0, 0)]
def x_t_X11_addReading : List (Nat × x_Row) := [(0, .aload_n 0, 1, 0, 0, 0, 0), (1, .getfield 67, 3, 10, 14, 509, 0), (4, .sipush 474, 3, 0, 0, 0, 0), (7, .if_icmp .ge 53, 3, 60, 0, 0, 0), (10, .aload_n 0, 1, 0, 0, 0, 0), (11, .getfield 63, 3, 10, 13, 508, 0), (14, .iconst 3, 1, 0, 0, 0, 0), (15, .aload_n 0, 1, 0, 0, 0, 0), (16, .getfield 67, 3, 10, 14, 509, 0), (19, .imul, 1, 0, 0, 0, 0), (20, .iload_n 1, 1, 0, 0, 0, 0), (21, .iastore, 1, 0, 0, 0, 0), (22, .aload_n 0, 1, 0, 0, 0, 0), (23, .getfield 63, 3, 10, 13, 508, 0), (26, .iconst 3, 1, 0, 0, 0, 0), (27, .aload_n 0, 1, 0, 0, 0, 0), (28, .getfield 67, 3, 10, 14, 509, 0), (31, .imul, 1, 0, 0, 0, 0), (32, .iconst 1, 1, 0, 0, 0, 0), (33, .iadd, 1, 0, 0, 0, 0), (34, .iload_n 2, 1, 0, 0, 0, 0), (35, .iastore, 1, 0, 0, 0, 0), (36, .aload_n 0, 1, 0, 0, 0, 0), (37, .getfield 63, 3, 10, 13, 508, 0), (40, .iconst 3, 1, 0, 0, 0, 0), (41, .aload_n 0, 1, 0, 0, 0, 0), (42, .getfield 67, 3, 10, 14, 509, 0), (45, .imul, 1, 0, 0, 0, 0), (46, .iconst 2, 1, 0, 0, 0, 0), (47, .iadd, 1, 0, 0, 0, 0), (48, .iload_n 3, 1, 0, 0, 0, 0), (49, .iastore, 1, 0, 0, 0, 0), (50, .aload_n 0, 1, 0, 0, 0, 0), (51, .dup, 1, 0, 0, 0, 0), (52, .getfield 67, 3, 10, 14, 509, 0), (55, .iconst 1, 1, 0, 0, 0, 0), (56, .iadd, 1, 0, 0, 0, 0), (57, .putfield 67, 3, 10, 14, 509, 0), (60, .return_, 1, 0, 0, 0, 0)]
def x_t_X11_reading : List (Nat × x_Row) := [(0, .iload_n 2, 1, 0, 0, 0, 0), (1, .ifCond .lt 8, 3, 9, 0, 0, 0), (4, .iload_n 2, 1, 0, 0, 0, 0), (5, .iconst 2, 1, 0, 0, 0, 0), (6, .if_icmp .le 9, 3, 15, 0, 0, 0), (9, .aload_n 0, 1, 0, 0, 0, 0), (10, .iconst 1, 1, 0, 0, 0, 0), (11, .invokevirtual 115, 3, 167, 2, 606, 0), (14, .ireturn, 1, 0, 0, 0, 0), (15, .iload_n 1, 1, 0, 0, 0, 0), (16, .ifCond .lt 11, 3, 27, 0, 0, 0), (19, .iload_n 1, 1, 0, 0, 0, 0), (20, .aload_n 0, 1, 0, 0, 0, 0), (21, .getfield 67, 3, 10, 14, 509, 0), (24, .if_icmp .lt 10, 3, 34, 0, 0, 0), (27, .aload_n 0, 1, 0, 0, 0, 0), (28, .bipush 6, 2, 0, 0, 0, 0), (30, .invokevirtual 115, 3, 167, 2, 606, 0), (33, .ireturn, 1, 0, 0, 0, 0), (34, .iload_n 2, 1, 0, 0, 0, 0), (35, .ifCond .le 25, 3, 60, 0, 0, 0), (38, .aload_n 0, 1, 0, 0, 0, 0), (39, .getfield 63, 3, 10, 13, 508, 0), (42, .iconst 3, 1, 0, 0, 0, 0), (43, .iload_n 1, 1, 0, 0, 0, 0), (44, .imul, 1, 0, 0, 0, 0), (45, .iconst 1, 1, 0, 0, 0, 0), (46, .iadd, 1, 0, 0, 0, 0), (47, .iaload, 1, 0, 0, 0, 0), (48, .bipush 6, 2, 0, 0, 0, 0), (50, .if_icmp .ne 10, 3, 60, 0, 0, 0), (53, .aload_n 0, 1, 0, 0, 0, 0), (54, .bipush 6, 2, 0, 0, 0, 0), (56, .invokevirtual 115, 3, 167, 2, 606, 0), (59, .ireturn, 1, 0, 0, 0, 0), (60, .aload_n 0, 1, 0, 0, 0, 0), (61, .aload_n 0, 1, 0, 0, 0, 0), (62, .getfield 63, 3, 10, 13, 508, 0), (65, .iconst 3, 1, 0, 0, 0, 0), (66, .iload_n 1, 1, 0, 0, 0, 0), (67, .imul, 1, 0, 0, 0, 0), (68, .iload_n 2, 1, 0, 0, 0, 0), (69, .iadd, 1, 0, 0, 0, 0), (70, .iaload, 1, 0, 0, 0, 0), (71, .invokevirtual 177, 3, 164, 2, 851, 0), (74, .ireturn, 1, 0, 0, 0, 0)]
def x_t_X11_doubt : List (Nat × x_Row) := [(0, .lload_n 1, 1, 0, 0, 0, 0), (1, .lconst 1, 1, 0, 0, 0, 0), (2, .lcmp, 1, 0, 0, 0, 0), (3, .ifCond .lt 11, 3, 14, 0, 0, 0), (6, .aload_n 0, 1, 0, 0, 0, 0), (7, .iload_n 3, 1, 0, 0, 0, 0), (8, .invokevirtual 248, 3, 124, 2, 1042, 0), (11, .ifCond .ne 9, 3, 20, 0, 0, 0), (14, .aload_n 0, 1, 0, 0, 0, 0), (15, .iconst 1, 1, 0, 0, 0, 0), (16, .invokevirtual 96, 3, 168, 2, 570, 0), (19, .ireturn, 1, 0, 0, 0, 0), (20, .aload_n 0, 1, 0, 0, 0, 0), (21, .getfield 36, 3, 10, 6, 501, 0), (24, .lload_n 1, 1, 0, 0, 0, 0), (25, .iconst (-1), 1, 0, 0, 0, 0), (26, .invokevirtual 278, 3, 55, 3, 1107, 0), (29, .istore 4, 2, 0, 0, 0, 0), (31, .iload 4, 2, 0, 0, 0, 0), (33, .ifCond .ne 10, 3, 43, 0, 0, 0), (36, .aload_n 0, 1, 0, 0, 0, 0), (37, .bipush 6, 2, 0, 0, 0, 0), (39, .invokevirtual 96, 3, 168, 2, 570, 0), (42, .ireturn, 1, 0, 0, 0, 0), (43, .aload_n 0, 1, 0, 0, 0, 0), (44, .aload_n 0, 1, 0, 0, 0, 0), (45, .getfield 36, 3, 10, 6, 501, 0), (48, .lload_n 1, 1, 0, 0, 0, 0), (49, .iload_n 3, 1, 0, 0, 0, 0), (50, .invokevirtual 278, 3, 55, 3, 1107, 0), (53, .iload 4, 2, 0, 0, 0, 0), (55, .invokevirtual 282, 3, 169, 3, 1117, 0), (58, .aload_n 0, 1, 0, 0, 0, 0), (59, .invokevirtual 103, 3, 166, 1, 578, 0), (62, .ireturn, 1, 0, 0, 0, 0)]
def x_t_X11_alike : List (Nat × x_Row) := [(0, .aload_n 0, 1, 0, 0, 0, 0), (1, .aload_n 0, 1, 0, 0, 0, 0), (2, .getfield 36, 3, 10, 6, 501, 0), (5, .aload_n 0, 1, 0, 0, 0, 0), (6, .getfield 36, 3, 10, 6, 501, 0), (9, .getfield 210, 3, 4, 6, 292, 0), (12, .invokevirtual 285, 3, 57, 2, 1128, 0), (15, .invokevirtual 177, 3, 164, 2, 851, 0), (18, .ireturn, 1, 0, 0, 0, 0)]
def x_t_X11_code : List (Nat × x_Row) := [(0, .iload_n 1, 1, 0, 0, 0, 0), (1, .iconst 1, 1, 0, 0, 0, 0), (2, .if_icmp .lt 28, 3, 30, 0, 0, 0), (5, .iload_n 1, 1, 0, 0, 0, 0), (6, .iconst 4, 1, 0, 0, 0, 0), (7, .if_icmp .gt 23, 3, 30, 0, 0, 0), (10, .iload_n 2, 1, 0, 0, 0, 0), (11, .iconst 1, 1, 0, 0, 0, 0), (12, .if_icmp .lt 18, 3, 30, 0, 0, 0), (15, .iload_n 2, 1, 0, 0, 0, 0), (16, .iconst 4, 1, 0, 0, 0, 0), (17, .if_icmp .gt 13, 3, 30, 0, 0, 0), (20, .iload_n 3, 1, 0, 0, 0, 0), (21, .ifCond .lt 9, 3, 30, 0, 0, 0), (24, .iload_n 3, 1, 0, 0, 0, 0), (25, .bipush 9, 2, 0, 0, 0, 0), (27, .if_icmp .le 9, 3, 36, 0, 0, 0), (30, .aload_n 0, 1, 0, 0, 0, 0), (31, .iconst 1, 1, 0, 0, 0, 0), (32, .invokevirtual 115, 3, 167, 2, 606, 0), (35, .ireturn, 1, 0, 0, 0, 0), (36, .aload_n 0, 1, 0, 0, 0, 0), (37, .getfield 73, 3, 10, 15, 510, 0), (40, .iload_n 1, 1, 0, 0, 0, 0), (41, .iload_n 2, 1, 0, 0, 0, 0), (42, .iload_n 3, 1, 0, 0, 0, 0), (43, .invokevirtual 288, 3, 2, 4, 1136, 0), (46, .ifCond .eq 17, 3, 63, 0, 0, 0), (49, .aload_n 0, 1, 0, 0, 0, 0), (50, .aload_n 0, 1, 0, 0, 0, 0), (51, .getfield 73, 3, 10, 15, 510, 0), (54, .invokevirtual 292, 3, 7, 1, 1155, 0), (57, .invokevirtual 177, 3, 164, 2, 851, 0), (60, .goto 9, 3, 69, 0, 0, 0), (63, .aload_n 0, 1, 0, 0, 0, 0), (64, .bipush 6, 2, 0, 0, 0, 0), (66, .invokevirtual 115, 3, 167, 2, 606, 0), (69, .ireturn, 1, 0, 0, 0, 0)]
def x_t_X11_codeAt : List (Nat × x_Row) := [(0, .iload_n 1, 1, 0, 0, 0, 0), (1, .ifCond .lt 14, 3, 15, 0, 0, 0), (4, .iload_n 1, 1, 0, 0, 0, 0), (5, .aload_n 0, 1, 0, 0, 0, 0), (6, .getfield 73, 3, 10, 15, 510, 0), (9, .getfield 296, 3, 0, 6, 347, 0), (12, .if_icmp .lt 11, 3, 23, 0, 0, 0), (15, .aload_n 0, 1, 0, 0, 0, 0), (16, .bipush 6, 2, 0, 0, 0, 0), (18, .invokevirtual 115, 3, 167, 2, 606, 0), (21, .i2l, 1, 0, 0, 0, 0), (22, .lreturn, 1, 0, 0, 0, 0), (23, .aload_n 0, 1, 0, 0, 0, 0), (24, .aload_n 0, 1, 0, 0, 0, 0), (25, .getfield 73, 3, 10, 15, 510, 0), (28, .iload_n 1, 1, 0, 0, 0, 0), (29, .invokevirtual 299, 3, 6, 2, 1163, 0), (32, .invokevirtual 123, 3, 165, 2, 610, 0), (35, .lreturn, 1, 0, 0, 0, 0)]
def x_t_X11_parts : List (Nat × x_Row) := [(0, .lload_n 1, 1, 0, 0, 0, 0), (1, .lconst 1, 1, 0, 0, 0, 0), (2, .lcmp, 1, 0, 0, 0, 0), (3, .ifCond .ge 9, 3, 12, 0, 0, 0), (6, .aload_n 0, 1, 0, 0, 0, 0), (7, .iconst 1, 1, 0, 0, 0, 0), (8, .invokevirtual 115, 3, 167, 2, 606, 0), (11, .ireturn, 1, 0, 0, 0, 0), (12, .iconst 0, 1, 0, 0, 0, 0), (13, .istore_n 3, 1, 0, 0, 0, 0), (14, .iconst 0, 1, 0, 0, 0, 0), (15, .istore 4, 2, 0, 0, 0, 0), (17, .iload 4, 2, 0, 0, 0, 0), (19, .aload_n 0, 1, 0, 0, 0, 0), (20, .getfield 36, 3, 10, 6, 501, 0), (23, .getfield 195, 3, 4, 0, 273, 0), (26, .if_icmp .ge 36, 3, 62, 0, 0, 0), (29, .aload_n 0, 1, 0, 0, 0, 0), (30, .getfield 36, 3, 10, 6, 501, 0), (33, .iload 4, 2, 0, 0, 0, 0), (35, .invokevirtual 254, 3, 52, 2, 1050, 0), (38, .lload_n 1, 1, 0, 0, 0, 0), (39, .ldc2_w 302, 3, 0, 0, 1172, -1), (42, .lxor, 1, 0, 0, 0, 0), (43, .land, 1, 0, 0, 0, 0), (44, .lconst 0, 1, 0, 0, 0, 0), (45, .lcmp, 1, 0, 0, 0, 0), (46, .ifCond .ne 10, 3, 56, 0, 0, 0), (49, .iload_n 3, 1, 0, 0, 0, 0), (50, .iconst 1, 1, 0, 0, 0, 0), (51, .iload 4, 2, 0, 0, 0, 0), (53, .ishl, 1, 0, 0, 0, 0), (54, .ior, 1, 0, 0, 0, 0), (55, .istore_n 3, 1, 0, 0, 0, 0), (56, .iinc 4 1, 3, 0, 0, 0, 0), (59, .goto (-42), 3, 17, 0, 0, 0), (62, .aload_n 0, 1, 0, 0, 0, 0), (63, .iload_n 3, 1, 0, 0, 0, 0), (64, .invokevirtual 177, 3, 164, 2, 851, 0), (67, .ireturn, 1, 0, 0, 0, 0)]
def x_t_X11_clearBeats : List (Nat × x_Row) := [(0, .aload_n 0, 1, 0, 0, 0, 0), (1, .iload_n 1, 1, 0, 0, 0, 0), (2, .invokevirtual 248, 3, 124, 2, 1042, 0), (5, .ifCond .eq 11, 3, 16, 0, 0, 0), (8, .aload_n 0, 1, 0, 0, 0, 0), (9, .iload_n 2, 1, 0, 0, 0, 0), (10, .invokevirtual 248, 3, 124, 2, 1042, 0), (13, .ifCond .ne 9, 3, 22, 0, 0, 0), (16, .aload_n 0, 1, 0, 0, 0, 0), (17, .iconst 1, 1, 0, 0, 0, 0), (18, .invokevirtual 115, 3, 167, 2, 606, 0), (21, .ireturn, 1, 0, 0, 0, 0), (22, .iconst 0, 1, 0, 0, 0, 0), (23, .istore_n 3, 1, 0, 0, 0, 0), (24, .iload_n 3, 1, 0, 0, 0, 0), (25, .bipush 12, 2, 0, 0, 0, 0), (27, .if_icmp .gt 37, 3, 64, 0, 0, 0), (30, .aload_n 0, 1, 0, 0, 0, 0), (31, .getfield 36, 3, 10, 6, 501, 0), (34, .aload_n 0, 1, 0, 0, 0, 0), (35, .getfield 36, 3, 10, 6, 501, 0), (38, .iload_n 1, 1, 0, 0, 0, 0), (39, .iload_n 2, 1, 0, 0, 0, 0), (40, .iload_n 3, 1, 0, 0, 0, 0), (41, .invokevirtual 258, 3, 53, 4, 1061, 0), (44, .iconst (-1), 1, 0, 0, 0, 0), (45, .invokevirtual 278, 3, 55, 3, 1107, 0), (48, .iconst 1, 1, 0, 0, 0, 0), (49, .if_icmp .ne 9, 3, 58, 0, 0, 0), (52, .aload_n 0, 1, 0, 0, 0, 0), (53, .iload_n 3, 1, 0, 0, 0, 0), (54, .invokevirtual 177, 3, 164, 2, 851, 0), (57, .ireturn, 1, 0, 0, 0, 0), (58, .iinc 3 1, 3, 0, 0, 0, 0), (61, .goto (-37), 3, 24, 0, 0, 0), (64, .aload_n 0, 1, 0, 0, 0, 0), (65, .bipush 6, 2, 0, 0, 0, 0), (67, .invokevirtual 115, 3, 167, 2, 606, 0), (70, .ireturn, 1, 0, 0, 0, 0)]
def x_t_X11_clearEcho : List (Nat × x_Row) := [(0, .iconst 0, 1, 0, 0, 0, 0), (1, .istore_n 1, 1, 0, 0, 0, 0), (2, .iload_n 1, 1, 0, 0, 0, 0), (3, .bipush 9, 2, 0, 0, 0, 0), (5, .if_icmp .gt 26, 3, 31, 0, 0, 0), (8, .aload_n 0, 1, 0, 0, 0, 0), (9, .getfield 36, 3, 10, 6, 501, 0), (12, .iload_n 1, 1, 0, 0, 0, 0), (13, .invokevirtual 285, 3, 57, 2, 1128, 0), (16, .ifCond .ne 9, 3, 25, 0, 0, 0), (19, .aload_n 0, 1, 0, 0, 0, 0), (20, .iload_n 1, 1, 0, 0, 0, 0), (21, .invokevirtual 177, 3, 164, 2, 851, 0), (24, .ireturn, 1, 0, 0, 0, 0), (25, .iinc 1 1, 3, 0, 0, 0, 0), (28, .goto (-26), 3, 2, 0, 0, 0), (31, .aload_n 0, 1, 0, 0, 0, 0), (32, .bipush 6, 2, 0, 0, 0, 0), (34, .invokevirtual 115, 3, 167, 2, 606, 0), (37, .ireturn, 1, 0, 0, 0, 0)]
def x_t_X11_silent : List (Nat × x_Row) := [(0, .lconst 0, 1, 0, 0, 0, 0), (1, .lstore_n 1, 1, 0, 0, 0, 0), (2, .iconst 0, 1, 0, 0, 0, 0), (3, .istore_n 3, 1, 0, 0, 0, 0), (4, .iload_n 3, 1, 0, 0, 0, 0), (5, .aload_n 0, 1, 0, 0, 0, 0), (6, .getfield 36, 3, 10, 6, 501, 0), (9, .getfield 195, 3, 4, 0, 273, 0), (12, .if_icmp .ge 20, 3, 32, 0, 0, 0), (15, .lload_n 1, 1, 0, 0, 0, 0), (16, .aload_n 0, 1, 0, 0, 0, 0), (17, .getfield 36, 3, 10, 6, 501, 0), (20, .iload_n 3, 1, 0, 0, 0, 0), (21, .invokevirtual 254, 3, 52, 2, 1050, 0), (24, .lor, 1, 0, 0, 0, 0), (25, .lstore_n 1, 1, 0, 0, 0, 0), (26, .iinc 3 1, 3, 0, 0, 0, 0), (29, .goto (-25), 3, 4, 0, 0, 0), (32, .aload_n 0, 1, 0, 0, 0, 0), (33, .lload_n 1, 1, 0, 0, 0, 0), (34, .ldc2_w 302, 3, 0, 0, 1172, -1), (37, .lxor, 1, 0, 0, 0, 0), (38, .invokestatic 304, 3, 315, 1, 1185, 0), (41, .invokevirtual 177, 3, 164, 2, 851, 0), (44, .ireturn, 1, 0, 0, 0, 0)]
def x_t_X11_least : List (Nat × x_Row) := [(0, .aload_n 0, 1, 0, 0, 0, 0), (1, .aload_n 0, 1, 0, 0, 0, 0), (2, .invokevirtual 307, 3, 155, 1, 1195, 0), (5, .invokevirtual 310, 3, 156, 2, 1228, 0), (8, .ireturn, 1, 0, 0, 0, 0)]
def x_t_X11_plan : List (Nat × x_Row) := [(0, .aload_n 0, 1, 0, 0, 0, 0), (1, .getfield 80, 3, 10, 16, 511, 0), (4, .aload_n 0, 1, 0, 0, 0, 0), (5, .getfield 36, 3, 10, 6, 501, 0), (8, .invokevirtual 313, 3, 9, 2, 1199, 0), (11, .aload_n 0, 1, 0, 0, 0, 0), (12, .getfield 80, 3, 10, 16, 511, 0), (15, .invokevirtual 317, 3, 20, 1, 1237, 0), (18, .ifCond .ne 10, 3, 28, 0, 0, 0), (21, .aload_n 0, 1, 0, 0, 0, 0), (22, .bipush 6, 2, 0, 0, 0, 0), (24, .invokevirtual 115, 3, 167, 2, 606, 0), (27, .ireturn, 1, 0, 0, 0, 0), (28, .aload_n 0, 1, 0, 0, 0, 0), (29, .getfield 80, 3, 10, 16, 511, 0), (32, .invokevirtual 320, 3, 24, 1, 1258, 0), (35, .aload_n 0, 1, 0, 0, 0, 0), (36, .aload_n 0, 1, 0, 0, 0, 0), (37, .getfield 80, 3, 10, 16, 511, 0), (40, .getfield 323, 3, 1, 8, 384, 0), (43, .invokevirtual 177, 3, 164, 2, 851, 0), (46, .ireturn, 1, 0, 0, 0, 0)]
def x_t_X11_planAt : List (Nat × x_Row) := [(0, .iload_n 2, 1, 0, 0, 0, 0), (1, .ifCond .lt 8, 3, 9, 0, 0, 0), (4, .iload_n 2, 1, 0, 0, 0, 0), (5, .iconst 2, 1, 0, 0, 0, 0), (6, .if_icmp .le 9, 3, 15, 0, 0, 0), (9, .aload_n 0, 1, 0, 0, 0, 0), (10, .iconst 1, 1, 0, 0, 0, 0), (11, .invokevirtual 115, 3, 167, 2, 606, 0), (14, .ireturn, 1, 0, 0, 0, 0), (15, .iload_n 1, 1, 0, 0, 0, 0), (16, .ifCond .lt 14, 3, 30, 0, 0, 0), (19, .iload_n 1, 1, 0, 0, 0, 0), (20, .aload_n 0, 1, 0, 0, 0, 0), (21, .getfield 80, 3, 10, 16, 511, 0), (24, .getfield 323, 3, 1, 8, 384, 0), (27, .if_icmp .lt 10, 3, 37, 0, 0, 0), (30, .aload_n 0, 1, 0, 0, 0, 0), (31, .bipush 6, 2, 0, 0, 0, 0), (33, .invokevirtual 115, 3, 167, 2, 606, 0), (36, .ireturn, 1, 0, 0, 0, 0), (37, .iload_n 2, 1, 0, 0, 0, 0), (38, .iconst 2, 1, 0, 0, 0, 0), (39, .if_icmp .ne 25, 3, 64, 0, 0, 0), (42, .aload_n 0, 1, 0, 0, 0, 0), (43, .getfield 80, 3, 10, 16, 511, 0), (46, .getfield 326, 3, 1, 9, 386, 0), (49, .iconst 3, 1, 0, 0, 0, 0), (50, .iload_n 1, 1, 0, 0, 0, 0), (51, .imul, 1, 0, 0, 0, 0), (52, .iaload, 1, 0, 0, 0, 0), (53, .iconst 2, 1, 0, 0, 0, 0), (54, .if_icmp .ne 10, 3, 64, 0, 0, 0), (57, .aload_n 0, 1, 0, 0, 0, 0), (58, .bipush 6, 2, 0, 0, 0, 0), (60, .invokevirtual 115, 3, 167, 2, 606, 0), (63, .ireturn, 1, 0, 0, 0, 0), (64, .aload_n 0, 1, 0, 0, 0, 0), (65, .aload_n 0, 1, 0, 0, 0, 0), (66, .getfield 80, 3, 10, 16, 511, 0), (69, .getfield 326, 3, 1, 9, 386, 0), (72, .iconst 3, 1, 0, 0, 0, 0), (73, .iload_n 1, 1, 0, 0, 0, 0), (74, .imul, 1, 0, 0, 0, 0), (75, .iload_n 2, 1, 0, 0, 0, 0), (76, .iadd, 1, 0, 0, 0, 0), (77, .iaload, 1, 0, 0, 0, 0), (78, .invokevirtual 177, 3, 164, 2, 851, 0), (81, .ireturn, 1, 0, 0, 0, 0)]
def x_t_X11_worth : List (Nat × x_Row) := [(0, .aload_n 0, 1, 0, 0, 0, 0), (1, .iload_n 1, 1, 0, 0, 0, 0), (2, .invokevirtual 213, 3, 125, 2, 1001, 0), (5, .ifCond .ne 9, 3, 14, 0, 0, 0), (8, .aload_n 0, 1, 0, 0, 0, 0), (9, .iconst 1, 1, 0, 0, 0, 0), (10, .invokevirtual 115, 3, 167, 2, 606, 0), (13, .ireturn, 1, 0, 0, 0, 0), (14, .aload_n 0, 1, 0, 0, 0, 0), (15, .invokevirtual 307, 3, 155, 1, 1195, 0), (18, .istore_n 2, 1, 0, 0, 0, 0), (19, .iload_n 2, 1, 0, 0, 0, 0), (20, .ldc_w 329, 3, 0, 0, 1232, 1000000000), (23, .if_icmp .lt 10, 3, 33, 0, 0, 0), (26, .aload_n 0, 1, 0, 0, 0, 0), (27, .bipush 6, 2, 0, 0, 0, 0), (29, .invokevirtual 115, 3, 167, 2, 606, 0), (32, .ireturn, 1, 0, 0, 0, 0), (33, .aload_n 0, 1, 0, 0, 0, 0), (34, .getfield 80, 3, 10, 16, 511, 0), (37, .aload_n 0, 1, 0, 0, 0, 0), (38, .getfield 36, 3, 10, 6, 501, 0), (41, .iconst 1, 1, 0, 0, 0, 0), (42, .iload_n 1, 1, 0, 0, 0, 0), (43, .ishl, 1, 0, 0, 0, 0), (44, .iconst (-1), 1, 0, 0, 0, 0), (45, .iconst 0, 1, 0, 0, 0, 0), (46, .invokevirtual 235, 3, 10, 5, 1017, 0), (49, .aload_n 0, 1, 0, 0, 0, 0), (50, .iload_n 2, 1, 0, 0, 0, 0), (51, .aload_n 0, 1, 0, 0, 0, 0), (52, .getfield 80, 3, 10, 16, 511, 0), (55, .invokevirtual 330, 3, 13, 1, 1205, 0), (58, .isub, 1, 0, 0, 0, 0), (59, .invokevirtual 177, 3, 164, 2, 851, 0), (62, .ireturn, 1, 0, 0, 0, 0)]
def x_t_X11_quicker : List (Nat × x_Row) := [(0, .iload_n 1, 1, 0, 0, 0, 0), (1, .iconst 1, 1, 0, 0, 0, 0), (2, .if_icmp .lt 9, 3, 11, 0, 0, 0), (5, .iload_n 1, 1, 0, 0, 0, 0), (6, .bipush 20, 2, 0, 0, 0, 0), (8, .if_icmp .le 9, 3, 17, 0, 0, 0), (11, .aload_n 0, 1, 0, 0, 0, 0), (12, .iconst 1, 1, 0, 0, 0, 0), (13, .invokevirtual 115, 3, 167, 2, 606, 0), (16, .ireturn, 1, 0, 0, 0, 0), (17, .aload_n 0, 1, 0, 0, 0, 0), (18, .getfield 80, 3, 10, 16, 511, 0), (21, .aload_n 0, 1, 0, 0, 0, 0), (22, .getfield 36, 3, 10, 6, 501, 0), (25, .invokevirtual 313, 3, 9, 2, 1199, 0), (28, .aload_n 0, 1, 0, 0, 0, 0), (29, .getfield 80, 3, 10, 16, 511, 0), (32, .iload_n 1, 1, 0, 0, 0, 0), (33, .putfield 333, 3, 1, 1, 374, 0), (36, .aload_n 0, 1, 0, 0, 0, 0), (37, .aload_n 0, 1, 0, 0, 0, 0), (38, .getfield 80, 3, 10, 16, 511, 0), (41, .invokevirtual 330, 3, 13, 1, 1205, 0), (44, .invokevirtual 310, 3, 156, 2, 1228, 0), (47, .ireturn, 1, 0, 0, 0, 0)]
def x_t_X11_away : List (Nat × x_Row) := [(0, .aload_n 0, 1, 0, 0, 0, 0), (1, .getfield 80, 3, 10, 16, 511, 0), (4, .aload_n 0, 1, 0, 0, 0, 0), (5, .getfield 36, 3, 10, 6, 501, 0), (8, .invokevirtual 313, 3, 9, 2, 1199, 0), (11, .iconst 0, 1, 0, 0, 0, 0), (12, .istore_n 1, 1, 0, 0, 0, 0), (13, .iload_n 1, 1, 0, 0, 0, 0), (14, .aload_n 0, 1, 0, 0, 0, 0), (15, .getfield 36, 3, 10, 6, 501, 0), (18, .getfield 168, 3, 4, 7, 297, 0), (21, .getfield 172, 3, 3, 0, 233, 0), (24, .if_icmp .gt 71, 3, 95, 0, 0, 0), (27, .iconst 0, 1, 0, 0, 0, 0), (28, .istore_n 2, 1, 0, 0, 0, 0), (29, .iload_n 2, 1, 0, 0, 0, 0), (30, .iconst 1, 1, 0, 0, 0, 0), (31, .aload_n 0, 1, 0, 0, 0, 0), (32, .getfield 36, 3, 10, 6, 501, 0), (35, .getfield 168, 3, 4, 7, 297, 0), (38, .getfield 172, 3, 3, 0, 233, 0), (41, .ishl, 1, 0, 0, 0, 0), (42, .if_icmp .ge 47, 3, 89, 0, 0, 0), (45, .iload_n 2, 1, 0, 0, 0, 0), (46, .invokestatic 334, 3, 313, 1, 1279, 0), (49, .iload_n 1, 1, 0, 0, 0, 0), (50, .if_icmp .ne 33, 3, 83, 0, 0, 0), (53, .aload_n 0, 1, 0, 0, 0, 0), (54, .getfield 80, 3, 10, 16, 511, 0), (57, .aload_n 0, 1, 0, 0, 0, 0), (58, .getfield 36, 3, 10, 6, 501, 0), (61, .iload_n 2, 1, 0, 0, 0, 0), (62, .iconst (-1), 1, 0, 0, 0, 0), (63, .iconst 0, 1, 0, 0, 0, 0), (64, .invokevirtual 235, 3, 10, 5, 1017, 0), (67, .aload_n 0, 1, 0, 0, 0, 0), (68, .getfield 80, 3, 10, 16, 511, 0), (71, .invokevirtual 338, 3, 15, 1, 1285, 0), (74, .ifCond .eq 9, 3, 83, 0, 0, 0), (77, .aload_n 0, 1, 0, 0, 0, 0), (78, .iload_n 2, 1, 0, 0, 0, 0), (79, .invokevirtual 177, 3, 164, 2, 851, 0), (82, .ireturn, 1, 0, 0, 0, 0), (83, .iinc 2 1, 3, 0, 0, 0, 0), (86, .goto (-57), 3, 29, 0, 0, 0), (89, .iinc 1 1, 3, 0, 0, 0, 0), (92, .goto (-79), 3, 13, 0, 0, 0), (95, .aload_n 0, 1, 0, 0, 0, 0), (96, .bipush 6, 2, 0, 0, 0, 0), (98, .invokevirtual 115, 3, 167, 2, 606, 0), (101, .ireturn, 1, 0, 0, 0, 0)]
def x_t_X11_later : List (Nat × x_Row) := [(0, .aload_n 0, 1, 0, 0, 0, 0), (1, .iload_n 1, 1, 0, 0, 0, 0), (2, .invokevirtual 213, 3, 125, 2, 1001, 0), (5, .ifCond .eq 13, 3, 18, 0, 0, 0), (8, .iload_n 2, 1, 0, 0, 0, 0), (9, .ifCond .lt 9, 3, 18, 0, 0, 0), (12, .iload_n 2, 1, 0, 0, 0, 0), (13, .bipush 60, 2, 0, 0, 0, 0), (15, .if_icmp .le 9, 3, 24, 0, 0, 0), (18, .aload_n 0, 1, 0, 0, 0, 0), (19, .iconst 1, 1, 0, 0, 0, 0), (20, .invokevirtual 115, 3, 167, 2, 606, 0), (23, .ireturn, 1, 0, 0, 0, 0), (24, .aload_n 0, 1, 0, 0, 0, 0), (25, .getfield 80, 3, 10, 16, 511, 0), (28, .aload_n 0, 1, 0, 0, 0, 0), (29, .getfield 36, 3, 10, 6, 501, 0), (32, .invokevirtual 313, 3, 9, 2, 1199, 0), (35, .aload_n 0, 1, 0, 0, 0, 0), (36, .getfield 80, 3, 10, 16, 511, 0), (39, .aload_n 0, 1, 0, 0, 0, 0), (40, .getfield 36, 3, 10, 6, 501, 0), (43, .iconst 0, 1, 0, 0, 0, 0), (44, .iload_n 1, 1, 0, 0, 0, 0), (45, .iload_n 2, 1, 0, 0, 0, 0), (46, .invokevirtual 235, 3, 10, 5, 1017, 0), (49, .aload_n 0, 1, 0, 0, 0, 0), (50, .aload_n 0, 1, 0, 0, 0, 0), (51, .getfield 80, 3, 10, 16, 511, 0), (54, .invokevirtual 330, 3, 13, 1, 1205, 0), (57, .invokevirtual 310, 3, 156, 2, 1228, 0), (60, .ireturn, 1, 0, 0, 0, 0)]
def x_t_X11_slack : List (Nat × x_Row) := [(0, .aload_n 0, 1, 0, 0, 0, 0), (1, .iload_n 1, 1, 0, 0, 0, 0), (2, .invokevirtual 213, 3, 125, 2, 1001, 0), (5, .ifCond .ne 9, 3, 14, 0, 0, 0), (8, .aload_n 0, 1, 0, 0, 0, 0), (9, .iconst 1, 1, 0, 0, 0, 0), (10, .invokevirtual 115, 3, 167, 2, 606, 0), (13, .ireturn, 1, 0, 0, 0, 0), (14, .aload_n 0, 1, 0, 0, 0, 0), (15, .invokevirtual 307, 3, 155, 1, 1195, 0), (18, .istore_n 2, 1, 0, 0, 0, 0), (19, .iload_n 2, 1, 0, 0, 0, 0), (20, .ldc_w 329, 3, 0, 0, 1232, 1000000000), (23, .if_icmp .lt 10, 3, 33, 0, 0, 0), (26, .aload_n 0, 1, 0, 0, 0, 0), (27, .bipush 6, 2, 0, 0, 0, 0), (29, .invokevirtual 115, 3, 167, 2, 606, 0), (32, .ireturn, 1, 0, 0, 0, 0), (33, .bipush 60, 2, 0, 0, 0, 0), (35, .istore_n 3, 1, 0, 0, 0, 0), (36, .iload_n 3, 1, 0, 0, 0, 0), (37, .ifCond .le 40, 3, 77, 0, 0, 0), (40, .aload_n 0, 1, 0, 0, 0, 0), (41, .getfield 80, 3, 10, 16, 511, 0), (44, .aload_n 0, 1, 0, 0, 0, 0), (45, .getfield 36, 3, 10, 6, 501, 0), (48, .iconst 0, 1, 0, 0, 0, 0), (49, .iload_n 1, 1, 0, 0, 0, 0), (50, .iload_n 3, 1, 0, 0, 0, 0), (51, .invokevirtual 235, 3, 10, 5, 1017, 0), (54, .aload_n 0, 1, 0, 0, 0, 0), (55, .getfield 80, 3, 10, 16, 511, 0), (58, .iload_n 2, 1, 0, 0, 0, 0), (59, .invokevirtual 341, 3, 14, 2, 1298, 0), (62, .ifCond .eq 9, 3, 71, 0, 0, 0), (65, .aload_n 0, 1, 0, 0, 0, 0), (66, .iload_n 3, 1, 0, 0, 0, 0), (67, .invokevirtual 177, 3, 164, 2, 851, 0), (70, .ireturn, 1, 0, 0, 0, 0), (71, .iinc 3 (-1), 3, 0, 0, 0, 0), (74, .goto (-38), 3, 36, 0, 0, 0), (77, .aload_n 0, 1, 0, 0, 0, 0), (78, .iconst 0, 1, 0, 0, 0, 0), (79, .invokevirtual 177, 3, 164, 2, 851, 0), (82, .ireturn, 1, 0, 0, 0, 0)]
def x_t_X11_without : List (Nat × x_Row) := [(0, .aload_n 0, 1, 0, 0, 0, 0), (1, .iload_n 1, 1, 0, 0, 0, 0), (2, .invokevirtual 232, 3, 126, 2, 1009, 0), (5, .ifCond .ne 9, 3, 14, 0, 0, 0), (8, .aload_n 0, 1, 0, 0, 0, 0), (9, .iconst 1, 1, 0, 0, 0, 0), (10, .invokevirtual 115, 3, 167, 2, 606, 0), (13, .ireturn, 1, 0, 0, 0, 0), (14, .aload_n 0, 1, 0, 0, 0, 0), (15, .getfield 80, 3, 10, 16, 511, 0), (18, .aload_n 0, 1, 0, 0, 0, 0), (19, .getfield 36, 3, 10, 6, 501, 0), (22, .invokevirtual 313, 3, 9, 2, 1199, 0), (25, .aload_n 0, 1, 0, 0, 0, 0), (26, .getfield 80, 3, 10, 16, 511, 0), (29, .aload_n 0, 1, 0, 0, 0, 0), (30, .getfield 36, 3, 10, 6, 501, 0), (33, .iload_n 1, 1, 0, 0, 0, 0), (34, .invokevirtual 243, 3, 11, 3, 1034, 0), (37, .aload_n 0, 1, 0, 0, 0, 0), (38, .aload_n 0, 1, 0, 0, 0, 0), (39, .getfield 80, 3, 10, 16, 511, 0), (42, .invokevirtual 330, 3, 13, 1, 1205, 0), (45, .invokevirtual 310, 3, 156, 2, 1228, 0), (48, .ireturn, 1, 0, 0, 0, 0)]
def x_t_X11_dearest : List (Nat × x_Row) := [(0, .aload_n 0, 1, 0, 0, 0, 0), (1, .getfield 80, 3, 10, 16, 511, 0), (4, .aload_n 0, 1, 0, 0, 0, 0), (5, .getfield 36, 3, 10, 6, 501, 0), (8, .invokevirtual 313, 3, 9, 2, 1199, 0), (11, .aload_n 0, 1, 0, 0, 0, 0), (12, .getfield 80, 3, 10, 16, 511, 0), (15, .invokevirtual 317, 3, 20, 1, 1237, 0), (18, .ifCond .eq 17, 3, 35, 0, 0, 0), (21, .aload_n 0, 1, 0, 0, 0, 0), (22, .getfield 80, 3, 10, 16, 511, 0), (25, .aload_n 0, 1, 0, 0, 0, 0), (26, .getfield 36, 3, 10, 6, 501, 0), (29, .invokevirtual 344, 3, 25, 2, 1310, 0), (32, .goto 4, 3, 36, 0, 0, 0), (35, .iconst (-1), 1, 0, 0, 0, 0), (36, .istore_n 1, 1, 0, 0, 0, 0), (37, .iload_n 1, 1, 0, 0, 0, 0), (38, .iconst (-1), 1, 0, 0, 0, 0), (39, .if_icmp .ne 12, 3, 51, 0, 0, 0), (42, .aload_n 0, 1, 0, 0, 0, 0), (43, .bipush 6, 2, 0, 0, 0, 0), (45, .invokevirtual 115, 3, 167, 2, 606, 0), (48, .goto 8, 3, 56, 0, 0, 0), (51, .aload_n 0, 1, 0, 0, 0, 0), (52, .iload_n 1, 1, 0, 0, 0, 0), (53, .invokevirtual 177, 3, 164, 2, 851, 0), (56, .ireturn, 1, 0, 0, 0, 0)]
def x_t_X11_opened : List (Nat × x_Row) := [(0, .aload_n 0, 1, 0, 0, 0, 0), (1, .getfield 80, 3, 10, 16, 511, 0), (4, .aload_n 0, 1, 0, 0, 0, 0), (5, .getfield 36, 3, 10, 6, 501, 0), (8, .invokevirtual 313, 3, 9, 2, 1199, 0), (11, .aload_n 0, 1, 0, 0, 0, 0), (12, .getfield 80, 3, 10, 16, 511, 0), (15, .invokevirtual 317, 3, 20, 1, 1237, 0), (18, .ifCond .eq 17, 3, 35, 0, 0, 0), (21, .aload_n 0, 1, 0, 0, 0, 0), (22, .aload_n 0, 1, 0, 0, 0, 0), (23, .getfield 80, 3, 10, 16, 511, 0), (26, .invokevirtual 348, 3, 27, 1, 1321, 0), (29, .invokevirtual 177, 3, 164, 2, 851, 0), (32, .goto 9, 3, 41, 0, 0, 0), (35, .aload_n 0, 1, 0, 0, 0, 0), (36, .bipush 6, 2, 0, 0, 0, 0), (38, .invokevirtual 115, 3, 167, 2, 606, 0), (41, .ireturn, 1, 0, 0, 0, 0)]
def x_t_X11_busiest : List (Nat × x_Row) := [(0, .aload_n 0, 1, 0, 0, 0, 0), (1, .getfield 80, 3, 10, 16, 511, 0), (4, .aload_n 0, 1, 0, 0, 0, 0), (5, .getfield 36, 3, 10, 6, 501, 0), (8, .invokevirtual 313, 3, 9, 2, 1199, 0), (11, .aload_n 0, 1, 0, 0, 0, 0), (12, .getfield 80, 3, 10, 16, 511, 0), (15, .invokevirtual 317, 3, 20, 1, 1237, 0), (18, .ifCond .eq 13, 3, 31, 0, 0, 0), (21, .aload_n 0, 1, 0, 0, 0, 0), (22, .getfield 80, 3, 10, 16, 511, 0), (25, .invokevirtual 351, 3, 28, 1, 1329, 0), (28, .goto 4, 3, 32, 0, 0, 0), (31, .iconst (-1), 1, 0, 0, 0, 0), (32, .istore_n 1, 1, 0, 0, 0, 0), (33, .iload_n 1, 1, 0, 0, 0, 0), (34, .iconst (-1), 1, 0, 0, 0, 0), (35, .if_icmp .ne 12, 3, 47, 0, 0, 0), (38, .aload_n 0, 1, 0, 0, 0, 0), (39, .bipush 6, 2, 0, 0, 0, 0), (41, .invokevirtual 115, 3, 167, 2, 606, 0), (44, .goto 8, 3, 52, 0, 0, 0), (47, .aload_n 0, 1, 0, 0, 0, 0), (48, .iload_n 1, 1, 0, 0, 0, 0), (49, .invokevirtual 177, 3, 164, 2, 851, 0), (52, .ireturn, 1, 0, 0, 0, 0)]
def x_t_X11_leastAsTold : List (Nat × x_Row) := [(0, .aload_n 0, 1, 0, 0, 0, 0), (1, .getfield 80, 3, 10, 16, 511, 0), (4, .aload_n 0, 1, 0, 0, 0, 0), (5, .getfield 36, 3, 10, 6, 501, 0), (8, .invokevirtual 313, 3, 9, 2, 1199, 0), (11, .aload_n 0, 1, 0, 0, 0, 0), (12, .getfield 80, 3, 10, 16, 511, 0), (15, .invokevirtual 330, 3, 13, 1, 1205, 0), (18, .ireturn, 1, 0, 0, 0, 0)]
def x_t_X11_answerWaits : List (Nat × x_Row) := [(0, .iload_n 1, 1, 0, 0, 0, 0), (1, .ldc_w 329, 3, 0, 0, 1232, 1000000000), (4, .if_icmp .lt 12, 3, 16, 0, 0, 0), (7, .aload_n 0, 1, 0, 0, 0, 0), (8, .bipush 6, 2, 0, 0, 0, 0), (10, .invokevirtual 115, 3, 167, 2, 606, 0), (13, .goto 8, 3, 21, 0, 0, 0), (16, .aload_n 0, 1, 0, 0, 0, 0), (17, .iload_n 1, 1, 0, 0, 0, 0), (18, .invokevirtual 177, 3, 164, 2, 851, 0), (21, .ireturn, 1, 0, 0, 0, 0)]
def x_t_X11_keep : List (Nat × x_Row) := [(0, .iload_n 1, 1, 0, 0, 0, 0), (1, .iconst (-1), 1, 0, 0, 0, 0), (2, .if_icmp .lt 10, 3, 12, 0, 0, 0), (5, .iload_n 1, 1, 0, 0, 0, 0), (6, .sipush 9999, 3, 0, 0, 0, 0), (9, .if_icmp .le 9, 3, 18, 0, 0, 0), (12, .aload_n 0, 1, 0, 0, 0, 0), (13, .iconst 1, 1, 0, 0, 0, 0), (14, .invokevirtual 115, 3, 167, 2, 606, 0), (17, .ireturn, 1, 0, 0, 0, 0), (18, .aload_n 0, 1, 0, 0, 0, 0), (19, .getfield 40, 3, 10, 7, 502, 0), (22, .ifnonnull 10, 3, 32, 0, 0, 0), (25, .aload_n 0, 1, 0, 0, 0, 0), (26, .bipush 6, 2, 0, 0, 0, 0), (28, .invokevirtual 115, 3, 167, 2, 606, 0), (31, .ireturn, 1, 0, 0, 0, 0), (32, .aload_n 0, 1, 0, 0, 0, 0), (33, .getfield 87, 3, 10, 17, 512, 0), (36, .aload_n 0, 1, 0, 0, 0, 0), (37, .getfield 36, 3, 10, 6, 501, 0), (40, .aload_n 0, 1, 0, 0, 0, 0), (41, .getfield 40, 3, 10, 7, 502, 0), (44, .iload_n 1, 1, 0, 0, 0, 0), (45, .invokevirtual 354, 3, 31, 4, 1340, 0), (48, .aload_n 0, 1, 0, 0, 0, 0), (49, .getfield 87, 3, 10, 17, 512, 0), (52, .invokevirtual 358, 3, 43, 1, 1405, 0), (55, .aload_n 0, 1, 0, 0, 0, 0), (56, .aload_n 0, 1, 0, 0, 0, 0), (57, .getfield 87, 3, 10, 17, 512, 0), (60, .getfield 361, 3, 2, 11, 434, 0), (63, .invokevirtual 177, 3, 164, 2, 851, 0), (66, .ireturn, 1, 0, 0, 0, 0)]
def x_t_X11_kept : List (Nat × x_Row) := [(0, .iload_n 1, 1, 0, 0, 0, 0), (1, .ifCond .lt 15, 3, 16, 0, 0, 0), (4, .iload_n 1, 1, 0, 0, 0, 0), (5, .aload_n 0, 1, 0, 0, 0, 0), (6, .getfield 87, 3, 10, 17, 512, 0), (9, .getfield 364, 3, 2, 16, 442, 0), (12, .arraylength, 1, 0, 0, 0, 0), (13, .if_icmp .lt 9, 3, 22, 0, 0, 0), (16, .aload_n 0, 1, 0, 0, 0, 0), (17, .iconst 1, 1, 0, 0, 0, 0), (18, .invokevirtual 115, 3, 167, 2, 606, 0), (21, .ireturn, 1, 0, 0, 0, 0), (22, .aload_n 0, 1, 0, 0, 0, 0), (23, .getfield 87, 3, 10, 17, 512, 0), (26, .getfield 367, 3, 2, 15, 440, 0), (29, .ifCond .eq 19, 3, 48, 0, 0, 0), (32, .aload_n 0, 1, 0, 0, 0, 0), (33, .aload_n 0, 1, 0, 0, 0, 0), (34, .getfield 87, 3, 10, 17, 512, 0), (37, .getfield 364, 3, 2, 16, 442, 0), (40, .iload_n 1, 1, 0, 0, 0, 0), (41, .iaload, 1, 0, 0, 0, 0), (42, .invokevirtual 177, 3, 164, 2, 851, 0), (45, .goto 9, 3, 54, 0, 0, 0), (48, .aload_n 0, 1, 0, 0, 0, 0), (49, .bipush 6, 2, 0, 0, 0, 0), (51, .invokevirtual 115, 3, 167, 2, 606, 0), (54, .ireturn, 1, 0, 0, 0, 0)]
def x_t_X11_odds : List (Nat × x_Row) := [(0, .aload_n 0, 1, 0, 0, 0, 0), (1, .iload_n 1, 1, 0, 0, 0, 0), (2, .iload_n 2, 1, 0, 0, 0, 0), (3, .invokevirtual 371, 3, 161, 3, 1417, 0), (6, .istore_n 3, 1, 0, 0, 0, 0), (7, .iload_n 3, 1, 0, 0, 0, 0), (8, .ifCond .eq 9, 3, 17, 0, 0, 0), (11, .aload_n 0, 1, 0, 0, 0, 0), (12, .iload_n 3, 1, 0, 0, 0, 0), (13, .invokevirtual 96, 3, 168, 2, 570, 0), (16, .ireturn, 1, 0, 0, 0, 0), (17, .iconst 0, 1, 0, 0, 0, 0), (18, .istore 4, 2, 0, 0, 0, 0), (20, .iconst 0, 1, 0, 0, 0, 0), (21, .istore 5, 2, 0, 0, 0, 0), (23, .iload 5, 2, 0, 0, 0, 0), (25, .iload_n 2, 1, 0, 0, 0, 0), (26, .if_icmp .ge 51, 3, 77, 0, 0, 0), (29, .aload_n 0, 1, 0, 0, 0, 0), (30, .getfield 87, 3, 10, 17, 512, 0), (33, .aload_n 0, 1, 0, 0, 0, 0), (34, .getfield 36, 3, 10, 6, 501, 0), (37, .aload_n 0, 1, 0, 0, 0, 0), (38, .getfield 40, 3, 10, 7, 502, 0), (41, .iload_n 1, 1, 0, 0, 0, 0), (42, .iload 5, 2, 0, 0, 0, 0), (44, .iadd, 1, 0, 0, 0, 0), (45, .invokevirtual 354, 3, 31, 4, 1340, 0), (48, .aload_n 0, 1, 0, 0, 0, 0), (49, .getfield 87, 3, 10, 17, 512, 0), (52, .getfield 374, 3, 2, 12, 436, 0), (55, .ifCond .ne 16, 3, 71, 0, 0, 0), (58, .aload_n 0, 1, 0, 0, 0, 0), (59, .getfield 87, 3, 10, 17, 512, 0), (62, .invokevirtual 377, 3, 42, 1, 1421, 0), (65, .ifCond .ne 6, 3, 71, 0, 0, 0), (68, .iinc 4 1, 3, 0, 0, 0, 0), (71, .iinc 5 1, 3, 0, 0, 0, 0), (74, .goto (-51), 3, 23, 0, 0, 0), (77, .aload_n 0, 1, 0, 0, 0, 0), (78, .iload 4, 2, 0, 0, 0, 0), (80, .iload_n 2, 1, 0, 0, 0, 0), (81, .invokevirtual 282, 3, 169, 3, 1117, 0), (84, .aload_n 0, 1, 0, 0, 0, 0), (85, .invokevirtual 103, 3, 166, 1, 578, 0), (88, .ireturn, 1, 0, 0, 0, 0)]
def x_t_X11_waits : List (Nat × x_Row) := [(0, .aload_n 0, 1, 0, 0, 0, 0), (1, .iload_n 1, 1, 0, 0, 0, 0), (2, .iload_n 2, 1, 0, 0, 0, 0), (3, .invokevirtual 371, 3, 161, 3, 1417, 0), (6, .istore_n 3, 1, 0, 0, 0, 0), (7, .iload_n 3, 1, 0, 0, 0, 0), (8, .ifCond .eq 9, 3, 17, 0, 0, 0), (11, .aload_n 0, 1, 0, 0, 0, 0), (12, .iload_n 3, 1, 0, 0, 0, 0), (13, .invokevirtual 115, 3, 167, 2, 606, 0), (16, .ireturn, 1, 0, 0, 0, 0), (17, .iconst 0, 1, 0, 0, 0, 0), (18, .istore 4, 2, 0, 0, 0, 0), (20, .iconst 0, 1, 0, 0, 0, 0), (21, .istore 5, 2, 0, 0, 0, 0), (23, .iload 5, 2, 0, 0, 0, 0), (25, .iload_n 2, 1, 0, 0, 0, 0), (26, .if_icmp .ge 40, 3, 66, 0, 0, 0), (29, .aload_n 0, 1, 0, 0, 0, 0), (30, .getfield 87, 3, 10, 17, 512, 0), (33, .aload_n 0, 1, 0, 0, 0, 0), (34, .getfield 36, 3, 10, 6, 501, 0), (37, .aload_n 0, 1, 0, 0, 0, 0), (38, .getfield 40, 3, 10, 7, 502, 0), (41, .iload_n 1, 1, 0, 0, 0, 0), (42, .iload 5, 2, 0, 0, 0, 0), (44, .iadd, 1, 0, 0, 0, 0), (45, .invokevirtual 354, 3, 31, 4, 1340, 0), (48, .iload 4, 2, 0, 0, 0, 0), (50, .aload_n 0, 1, 0, 0, 0, 0), (51, .getfield 87, 3, 10, 17, 512, 0), (54, .getfield 361, 3, 2, 11, 434, 0), (57, .iadd, 1, 0, 0, 0, 0), (58, .istore 4, 2, 0, 0, 0, 0), (60, .iinc 5 1, 3, 0, 0, 0, 0), (63, .goto (-40), 3, 23, 0, 0, 0), (66, .aload_n 0, 1, 0, 0, 0, 0), (67, .iload 4, 2, 0, 0, 0, 0), (69, .invokevirtual 177, 3, 164, 2, 851, 0), (72, .ireturn, 1, 0, 0, 0, 0)]
def x_t_X11_wrongSeeds : List (Nat × x_Row) := [(0, .iload_n 1, 1, 0, 0, 0, 0), (1, .ifCond .lt 32, 3, 33, 0, 0, 0), (4, .iload_n 1, 1, 0, 0, 0, 0), (5, .sipush 9999, 3, 0, 0, 0, 0), (8, .if_icmp .gt 25, 3, 33, 0, 0, 0), (11, .iload_n 2, 1, 0, 0, 0, 0), (12, .iconst 1, 1, 0, 0, 0, 0), (13, .if_icmp .lt 20, 3, 33, 0, 0, 0), (16, .iload_n 2, 1, 0, 0, 0, 0), (17, .bipush 20, 2, 0, 0, 0, 0), (19, .if_icmp .gt 14, 3, 33, 0, 0, 0), (22, .iload_n 1, 1, 0, 0, 0, 0), (23, .iload_n 2, 1, 0, 0, 0, 0), (24, .iadd, 1, 0, 0, 0, 0), (25, .iconst 1, 1, 0, 0, 0, 0), (26, .isub, 1, 0, 0, 0, 0), (27, .sipush 9999, 3, 0, 0, 0, 0), (30, .if_icmp .le 5, 3, 35, 0, 0, 0), (33, .iconst 1, 1, 0, 0, 0, 0), (34, .ireturn, 1, 0, 0, 0, 0), (35, .aload_n 0, 1, 0, 0, 0, 0), (36, .getfield 40, 3, 10, 7, 502, 0), (39, .ifnonnull 8, 3, 47, 0, 0, 0), (42, .bipush 6, 2, 0, 0, 0, 0), (44, .goto 4, 3, 48, 0, 0, 0), (47, .iconst 0, 1, 0, 0, 0, 0), (48, .ireturn, 1, 0, 0, 0, 0)]
def x_t_X11_mark : List (Nat × x_Row) := [(0, .aload_n 0, 1, 0, 0, 0, 0), (1, .getfield 60, 3, 10, 12, 507, 0), (4, .iconst 3, 1, 0, 0, 0, 0), (5, .if_icmp .lt 9, 3, 14, 0, 0, 0), (8, .aload_n 0, 1, 0, 0, 0, 0), (9, .iconst 4, 1, 0, 0, 0, 0), (10, .invokevirtual 115, 3, 167, 2, 606, 0), (13, .ireturn, 1, 0, 0, 0, 0), (14, .aload_n 0, 1, 0, 0, 0, 0), (15, .getfield 50, 3, 10, 10, 505, 0), (18, .aload_n 0, 1, 0, 0, 0, 0), (19, .getfield 60, 3, 10, 12, 507, 0), (22, .aload_n 0, 1, 0, 0, 0, 0), (23, .getfield 36, 3, 10, 6, 501, 0), (26, .aastore, 1, 0, 0, 0, 0), (27, .aload_n 0, 1, 0, 0, 0, 0), (28, .getfield 56, 3, 10, 11, 506, 0), (31, .aload_n 0, 1, 0, 0, 0, 0), (32, .getfield 60, 3, 10, 12, 507, 0), (35, .aload_n 0, 1, 0, 0, 0, 0), (36, .getfield 40, 3, 10, 7, 502, 0), (39, .aastore, 1, 0, 0, 0, 0), (40, .aload_n 0, 1, 0, 0, 0, 0), (41, .dup, 1, 0, 0, 0, 0), (42, .getfield 60, 3, 10, 12, 507, 0), (45, .iconst 1, 1, 0, 0, 0, 0), (46, .iadd, 1, 0, 0, 0, 0), (47, .putfield 60, 3, 10, 12, 507, 0), (50, .aload_n 0, 1, 0, 0, 0, 0), (51, .aload_n 0, 1, 0, 0, 0, 0), (52, .getfield 60, 3, 10, 12, 507, 0), (55, .invokevirtual 177, 3, 164, 2, 851, 0), (58, .ireturn, 1, 0, 0, 0, 0)]
def x_t_X11_back : List (Nat × x_Row) := [(0, .aload_n 0, 1, 0, 0, 0, 0), (1, .getfield 60, 3, 10, 12, 507, 0), (4, .iconst 1, 1, 0, 0, 0, 0), (5, .if_icmp .lt 17, 3, 22, 0, 0, 0), (8, .aload_n 0, 1, 0, 0, 0, 0), (9, .getfield 50, 3, 10, 10, 505, 0), (12, .aload_n 0, 1, 0, 0, 0, 0), (13, .getfield 60, 3, 10, 12, 507, 0), (16, .iconst 1, 1, 0, 0, 0, 0), (17, .isub, 1, 0, 0, 0, 0), (18, .aaload, 1, 0, 0, 0, 0), (19, .ifnonnull 10, 3, 29, 0, 0, 0), (22, .aload_n 0, 1, 0, 0, 0, 0), (23, .bipush 6, 2, 0, 0, 0, 0), (25, .invokevirtual 115, 3, 167, 2, 606, 0), (28, .ireturn, 1, 0, 0, 0, 0), (29, .aload_n 0, 1, 0, 0, 0, 0), (30, .dup, 1, 0, 0, 0, 0), (31, .getfield 60, 3, 10, 12, 507, 0), (34, .iconst 1, 1, 0, 0, 0, 0), (35, .isub, 1, 0, 0, 0, 0), (36, .putfield 60, 3, 10, 12, 507, 0), (39, .aload_n 0, 1, 0, 0, 0, 0), (40, .aload_n 0, 1, 0, 0, 0, 0), (41, .getfield 50, 3, 10, 10, 505, 0), (44, .aload_n 0, 1, 0, 0, 0, 0), (45, .getfield 60, 3, 10, 12, 507, 0), (48, .aaload, 1, 0, 0, 0, 0), (49, .putfield 36, 3, 10, 6, 501, 0), (52, .aload_n 0, 1, 0, 0, 0, 0), (53, .aload_n 0, 1, 0, 0, 0, 0), (54, .getfield 56, 3, 10, 11, 506, 0), (57, .aload_n 0, 1, 0, 0, 0, 0), (58, .getfield 60, 3, 10, 12, 507, 0), (61, .aaload, 1, 0, 0, 0, 0), (62, .putfield 40, 3, 10, 7, 502, 0), (65, .aload_n 0, 1, 0, 0, 0, 0), (66, .aload_n 0, 1, 0, 0, 0, 0), (67, .getfield 60, 3, 10, 12, 507, 0), (70, .invokevirtual 177, 3, 164, 2, 851, 0), (73, .ireturn, 1, 0, 0, 0, 0)]
def x_t_X11_answer : List (Nat × x_Row) := [(0, .aload_n 0, 1, 0, 0, 0, 0), (1, .iconst 0, 1, 0, 0, 0, 0), (2, .putfield 9, 3, 10, 0, 495, 0), (5, .iload_n 1, 1, 0, 0, 0, 0), (6, .ireturn, 1, 0, 0, 0, 0)]
def x_t_X11_answerLong : List (Nat × x_Row) := [(0, .aload_n 0, 1, 0, 0, 0, 0), (1, .iconst 0, 1, 0, 0, 0, 0), (2, .putfield 9, 3, 10, 0, 495, 0), (5, .lload_n 1, 1, 0, 0, 0, 0), (6, .lreturn, 1, 0, 0, 0, 0)]
def x_t_X11_grant : List (Nat × x_Row) := [(0, .aload_n 0, 1, 0, 0, 0, 0), (1, .iconst 0, 1, 0, 0, 0, 0), (2, .putfield 9, 3, 10, 0, 495, 0), (5, .iconst 1, 1, 0, 0, 0, 0), (6, .ireturn, 1, 0, 0, 0, 0)]
def x_t_X11_refuse : List (Nat × x_Row) := [(0, .aload_n 0, 1, 0, 0, 0, 0), (1, .iload_n 1, 1, 0, 0, 0, 0), (2, .putfield 9, 3, 10, 0, 495, 0), (5, .iconst (-1), 1, 0, 0, 0, 0), (6, .ireturn, 1, 0, 0, 0, 0)]
def x_t_X11_deny : List (Nat × x_Row) := [(0, .aload_n 0, 1, 0, 0, 0, 0), (1, .iload_n 1, 1, 0, 0, 0, 0), (2, .putfield 9, 3, 10, 0, 495, 0), (5, .iconst 0, 1, 0, 0, 0, 0), (6, .ireturn, 1, 0, 0, 0, 0)]
def x_t_X11_tellFraction : List (Nat × x_Row) := [(0, .iload_n 1, 1, 0, 0, 0, 0), (1, .iload_n 2, 1, 0, 0, 0, 0), (2, .invokestatic 380, 3, 170, 2, 1121, 0), (5, .istore_n 3, 1, 0, 0, 0, 0), (6, .iload_n 3, 1, 0, 0, 0, 0), (7, .ifCond .le 19, 3, 26, 0, 0, 0), (10, .aload_n 0, 1, 0, 0, 0, 0), (11, .iload_n 1, 1, 0, 0, 0, 0), (12, .iload_n 3, 1, 0, 0, 0, 0), (13, .idiv, 1, 0, 0, 0, 0), (14, .i2l, 1, 0, 0, 0, 0), (15, .putfield 13, 3, 10, 1, 496, 0), (18, .aload_n 0, 1, 0, 0, 0, 0), (19, .iload_n 2, 1, 0, 0, 0, 0), (20, .iload_n 3, 1, 0, 0, 0, 0), (21, .idiv, 1, 0, 0, 0, 0), (22, .i2l, 1, 0, 0, 0, 0), (23, .putfield 17, 3, 10, 2, 497, 0), (26, .return_, 1, 0, 0, 0, 0)]
def x_t_X11_commonDivisor : List (Nat × x_Row) := [(0, .iload_n 1, 1, 0, 0, 0, 0), (1, .istore_n 2, 1, 0, 0, 0, 0), (2, .iload_n 0, 1, 0, 0, 0, 0), (3, .istore_n 3, 1, 0, 0, 0, 0), (4, .iconst 0, 1, 0, 0, 0, 0), (5, .istore 4, 2, 0, 0, 0, 0), (7, .iload 4, 2, 0, 0, 0, 0), (9, .bipush 64, 2, 0, 0, 0, 0), (11, .if_icmp .ge 23, 3, 34, 0, 0, 0), (14, .iload_n 3, 1, 0, 0, 0, 0), (15, .ifCond .eq 19, 3, 34, 0, 0, 0), (18, .iload_n 2, 1, 0, 0, 0, 0), (19, .iload_n 3, 1, 0, 0, 0, 0), (20, .irem, 1, 0, 0, 0, 0), (21, .istore 5, 2, 0, 0, 0, 0), (23, .iload_n 3, 1, 0, 0, 0, 0), (24, .istore_n 2, 1, 0, 0, 0, 0), (25, .iload 5, 2, 0, 0, 0, 0), (27, .istore_n 3, 1, 0, 0, 0, 0), (28, .iinc 4 1, 3, 0, 0, 0, 0), (31, .goto (-24), 3, 7, 0, 0, 0), (34, .iload_n 2, 1, 0, 0, 0, 0), (35, .ireturn, 1, 0, 0, 0, 0)]
def x_t_X12_init : List (Nat × x_Row) := [(0, .aload_n 0, 1, 0, 0, 0, 0), (1, .invokespecial 1, 3, 1000, 0, 1439, 0), (4, .aload_n 0, 1, 0, 0, 0, 0), (5, .sipush 1760, 3, 0, 0, 0, 0), (8, .newarray .int, 2, 0, 0, 0, 0), (10, .putfield 7, 3, 11, 0, 1440, 0), (13, .aload_n 0, 1, 0, 0, 0, 0), (14, .bipush 100, 2, 0, 0, 0, 0), (16, .newarray .long, 2, 0, 0, 0, 0), (18, .putfield 13, 3, 11, 1, 1441, 0), (21, .aload_n 0, 1, 0, 0, 0, 0), (22, .lconst 1, 1, 0, 0, 0, 0), (23, .putfield 17, 3, 11, 4, 1444, 0), (26, .aload_n 0, 1, 0, 0, 0, 0), (27, .iconst 4, 1, 0, 0, 0, 0), (28, .newarray .int, 2, 0, 0, 0, 0), (30, .putfield 21, 3, 11, 5, 1445, 0), (33, .aload_n 0, 1, 0, 0, 0, 0), (34, .iconst 4, 1, 0, 0, 0, 0), (35, .newarray .int, 2, 0, 0, 0, 0), (37, .dup, 1, 0, 0, 0, 0), (38, .iconst 0, 1, 0, 0, 0, 0), (39, .iconst (-1), 1, 0, 0, 0, 0), (40, .iastore, 1, 0, 0, 0, 0), (41, .dup, 1, 0, 0, 0, 0), (42, .iconst 1, 1, 0, 0, 0, 0), (43, .iconst (-1), 1, 0, 0, 0, 0), (44, .iastore, 1, 0, 0, 0, 0), (45, .dup, 1, 0, 0, 0, 0), (46, .iconst 2, 1, 0, 0, 0, 0), (47, .iconst (-1), 1, 0, 0, 0, 0), (48, .iastore, 1, 0, 0, 0, 0), (49, .dup, 1, 0, 0, 0, 0), (50, .iconst 3, 1, 0, 0, 0, 0), (51, .iconst (-1), 1, 0, 0, 0, 0), (52, .iastore, 1, 0, 0, 0, 0), (53, .putfield 24, 3, 11, 6, 1446, 0), (56, .aload_n 0, 1, 0, 0, 0, 0), (57, .sipush 240, 3, 0, 0, 0, 0), (60, .newarray .long, 2, 0, 0, 0, 0), (62, .putfield 27, 3, 11, 7, 1447, 0), (65, .aload_n 0, 1, 0, 0, 0, 0), (66, .sipush 900, 3, 0, 0, 0, 0), (69, .newarray .byte, 2, 0, 0, 0, 0), (71, .putfield 30, 3, 11, 8, 1448, 0), (74, .aload_n 0, 1, 0, 0, 0, 0), (75, .sipush 900, 3, 0, 0, 0, 0), (78, .newarray .byte, 2, 0, 0, 0, 0), (80, .putfield 34, 3, 11, 9, 1449, 0), (83, .aload_n 0, 1, 0, 0, 0, 0), (84, .iconst (-1), 1, 0, 0, 0, 0), (85, .putfield 37, 3, 11, 16, 1456, 0), (88, .aload_n 0, 1, 0, 0, 0, 0), (89, .iconst (-1), 1, 0, 0, 0, 0), (90, .putfield 41, 3, 11, 17, 1457, 0), (93, .aload_n 0, 1, 0, 0, 0, 0), (94, .bipush 60, 2, 0, 0, 0, 0), (96, .newarray .int, 2, 0, 0, 0, 0), (98, .putfield 44, 3, 11, 21, 1461, 0), (101, .aload_n 0, 1, 0, 0, 0, 0), (102, .sipush 500, 3, 0, 0, 0, 0), (105, .newarray .int, 2, 0, 0, 0, 0), (107, .putfield 47, 3, 11, 26, 1466, 0), (110, .aload_n 0, 1, 0, 0, 0, 0), (111, .sipush 500, 3, 0, 0, 0, 0), (114, .newarray .int, 2, 0, 0, 0, 0), (116, .putfield 50, 3, 11, 27, 1467, 0), (119, .aload_n 0, 1, 0, 0, 0, 0), (120, .sipush 500, 3, 0, 0, 0, 0), (123, .newarray .int, 2, 0, 0, 0, 0), (125, .putfield 53, 3, 11, 28, 1468, 0), (128, .aload_n 0, 1, 0, 0, 0, 0), (129, .sipush 500, 3, 0, 0, 0, 0), (132, .newarray .int, 2, 0, 0, 0, 0), (134, .putfield 56, 3, 11, 31, 1471, 0), (137, .aload_n 0, 1, 0, 0, 0, 0), (138, .sipush 500, 3, 0, 0, 0, 0), (141, .newarray .int, 2, 0, 0, 0, 0), (143, .putfield 59, 3, 11, 32, 1472, 0), (146, .aload_n 0, 1, 0, 0, 0, 0), (147, .sipush 500, 3, 0, 0, 0, 0), (150, .newarray .int, 2, 0, 0, 0, 0), (152, .putfield 62, 3, 11, 33, 1473, 0), (155, .aload_n 0, 1, 0, 0, 0, 0), (156, .bipush 30, 2, 0, 0, 0, 0), (158, .newarray .long, 2, 0, 0, 0, 0), (160, .putfield 65, 3, 11, 34, 1474, 0), (163, .aload_n 0, 1, 0, 0, 0, 0), (164, .bipush 30, 2, 0, 0, 0, 0), (166, .newarray .long, 2, 0, 0, 0, 0), (168, .putfield 68, 3, 11, 35, 1475, 0), (171, .aload_n 0, 1, 0, 0, 0, 0), (172, .iconst 4, 1, 0, 0, 0, 0), (173, .newarray .long, 2, 0, 0, 0, 0), (175, .putfield 71, 3, 11, 36, 1476, 0), (178, .aload_n 0, 1, 0, 0, 0, 0), (179, .bipush 30, 2, 0, 0, 0, 0), (181, .newarray .int, 2, 0, 0, 0, 0), (183, .putfield 74, 3, 11, 37, 1477, 0), (186, .aload_n 0, 1, 0, 0, 0, 0), (187, .iconst 5, 1, 0, 0, 0, 0), (188, .newarray .int, 2, 0, 0, 0, 0), (190, .putfield 77, 3, 11, 38, 1478, 0), (193, .aload_n 0, 1, 0, 0, 0, 0), (194, .bipush 12, 2, 0, 0, 0, 0), (196, .newarray .int, 2, 0, 0, 0, 0), (198, .putfield 80, 3, 11, 41, 1481, 0), (201, .aload_n 0, 1, 0, 0, 0, 0), (202, .bipush 6, 2, 0, 0, 0, 0), (204, .newarray .int, 2, 0, 0, 0, 0), (206, .putfield 83, 3, 11, 42, 1482, 0), (209, .aload_n 0, 1, 0, 0, 0, 0), (210, .bipush 6, 2, 0, 0, 0, 0), (212, .newarray .int, 2, 0, 0, 0, 0), (214, .putfield 86, 3, 11, 43, 1483, 0), (217, .aload_n 0, 1, 0, 0, 0, 0), (218, .iconst (-1), 1, 0, 0, 0, 0), (219, .putfield 89, 3, 11, 46, 1486, 0), (222, .aload_n 0, 1, 0, 0, 0, 0), (223, .sipush 23716, 3, 0, 0, 0, 0), (226, .newarray .int, 2, 0, 0, 0, 0), (228, .putfield 92, 3, 11, 47, 1487, 0), (231, .aload_n 0, 1, 0, 0, 0, 0), (232, .bipush 100, 2, 0, 0, 0, 0), (234, .newarray .int, 2, 0, 0, 0, 0), (236, .putfield 95, 3, 11, 49, 1489, 0), (239, .aload_n 0, 1, 0, 0, 0, 0), (240, .bipush 100, 2, 0, 0, 0, 0), (242, .newarray .int, 2, 0, 0, 0, 0), (244, .putfield 98, 3, 11, 50, 1490, 0), (247, .aload_n 0, 1, 0, 0, 0, 0), (248, .bipush 100, 2, 0, 0, 0, 0), (250, .newarray .int, 2, 0, 0, 0, 0), (252, .putfield 101, 3, 11, 51, 1491, 0), (255, .aload_n 0, 1, 0, 0, 0, 0), (256, .bipush 100, 2, 0, 0, 0, 0), (258, .newarray .int, 2, 0, 0, 0, 0), (260, .putfield 104, 3, 11, 52, 1492, 0), (263, .aload_n 0, 1, 0, 0, 0, 0), (264, .bipush 100, 2, 0, 0, 0, 0), (266, .newarray .int, 2, 0, 0, 0, 0), (268, .putfield 107, 3, 11, 53, 1493, 0), (271, .aload_n 0, 1, 0, 0, 0, 0), (272, .bipush 100, 2, 0, 0, 0, 0), (274, .newarray .int, 2, 0, 0, 0, 0), (276, .putfield 110, 3, 11, 54, 1494, 0), (279, .aload_n 0, 1, 0, 0, 0, 0), (280, .bipush 6, 2, 0, 0, 0, 0), (282, .newarray .boolean, 2, 0, 0, 0, 0), (284, .putfield 113, 3, 11, 71, 1511, 0), (287, .aload_n 0, 1, 0, 0, 0, 0), (288, .bipush 60, 2, 0, 0, 0, 0), (290, .newarray .boolean, 2, 0, 0, 0, 0), (292, .putfield 117, 3, 11, 72, 1512, 0), (295, .aload_n 0, 1, 0, 0, 0, 0), (296, .iconst 5, 1, 0, 0, 0, 0), (297, .newarray .int, 2, 0, 0, 0, 0), (299, .putfield 120, 3, 11, 73, 1513, 0), (302, .aload_n 0, 1, 0, 0, 0, 0), (303, .getfield 7, 3, 11, 0, 1440, 0), (306, .iconst 4, 1, 0, 0, 0, 0), (307, .iconst 5, 1, 0, 0, 0, 0), (308, .iastore, 1, 0, 0, 0, 0), (309, .return_, 1, 0, 0, 0, 0)]
def x_t_X12_status : List (Nat × x_Row) := [(0, .aload_n 0, 1, 0, 0, 0, 0), (1, .getfield 123, 3, 11, 2, 1442, 0), (4, .ireturn, 1, 0, 0, 0, 0)]
def x_t_X12_top : List (Nat × x_Row) := [(0, .aload_n 0, 1, 0, 0, 0, 0), (1, .getfield 126, 3, 11, 3, 1443, 0), (4, .lreturn, 1, 0, 0, 0, 0)]
def x_t_X12_bottom : List (Nat × x_Row) := [(0, .aload_n 0, 1, 0, 0, 0, 0), (1, .getfield 17, 3, 11, 4, 1444, 0), (4, .lreturn, 1, 0, 0, 0, 0)]
def x_t_X12_is : List (Nat × x_Row) := [(0, .aload_n 0, 1, 0, 0, 0, 0), (1, .iload_n 1, 1, 0, 0, 0, 0), (2, .putfield 123, 3, 11, 2, 1442, 0), (5, .iload_n 1, 1, 0, 0, 0, 0), (6, .ifCond .ne 7, 3, 13, 0, 0, 0), (9, .iconst 1, 1, 0, 0, 0, 0), (10, .goto 4, 3, 14, 0, 0, 0), (13, .iconst 0, 1, 0, 0, 0, 0), (14, .ireturn, 1, 0, 0, 0, 0)]
def x_t_X12_refuse : List (Nat × x_Row) := [(0, .aload_n 0, 1, 0, 0, 0, 0), (1, .iload_n 1, 1, 0, 0, 0, 0), (2, .putfield 123, 3, 11, 2, 1442, 0), (5, .iconst (-1), 1, 0, 0, 0, 0), (6, .ireturn, 1, 0, 0, 0, 0)]
def x_t_X12_gives : List (Nat × x_Row) := [(0, .aload_n 0, 1, 0, 0, 0, 0), (1, .iconst 0, 1, 0, 0, 0, 0), (2, .putfield 123, 3, 11, 2, 1442, 0), (5, .iload_n 1, 1, 0, 0, 0, 0), (6, .ireturn, 1, 0, 0, 0, 0)]
def x_t_X12_orNone : List (Nat × x_Row) := [(0, .iload_n 1, 1, 0, 0, 0, 0), (1, .iconst (-1), 1, 0, 0, 0, 0), (2, .if_icmp .ne 12, 3, 14, 0, 0, 0), (5, .aload_n 0, 1, 0, 0, 0, 0), (6, .bipush 6, 2, 0, 0, 0, 0), (8, .invokevirtual 129, 3, 176, 2, 1748, 0), (11, .goto 8, 3, 19, 0, 0, 0), (14, .aload_n 0, 1, 0, 0, 0, 0), (15, .iload_n 1, 1, 0, 0, 0, 0), (16, .invokevirtual 133, 3, 177, 2, 1873, 0), (19, .ireturn, 1, 0, 0, 0, 0)]
def x_t_X12_givesLong : List (Nat × x_Row) := [(0, .aload_n 0, 1, 0, 0, 0, 0), (1, .iconst 0, 1, 0, 0, 0, 0), (2, .putfield 123, 3, 11, 2, 1442, 0), (5, .lload_n 1, 1, 0, 0, 0, 0), (6, .lreturn, 1, 0, 0, 0, 0)]
def x_t_X12_tellsBy : List (Nat × x_Row) := [(0, .lload_n 1, 1, 0, 0, 0, 0), (1, .lstore 5, 2, 0, 0, 0, 0), (3, .lload_n 3, 1, 0, 0, 0, 0), (4, .lstore 7, 2, 0, 0, 0, 0), (6, .lload 7, 2, 0, 0, 0, 0), (8, .lconst 0, 1, 0, 0, 0, 0), (9, .lcmp, 1, 0, 0, 0, 0), (10, .ifCond .eq 21, 3, 31, 0, 0, 0), (13, .lload 5, 2, 0, 0, 0, 0), (15, .lload 7, 2, 0, 0, 0, 0), (17, .lrem, 1, 0, 0, 0, 0), (18, .lstore 9, 2, 0, 0, 0, 0), (20, .lload 7, 2, 0, 0, 0, 0), (22, .lstore 5, 2, 0, 0, 0, 0), (24, .lload 9, 2, 0, 0, 0, 0), (26, .lstore 7, 2, 0, 0, 0, 0), (28, .goto (-22), 3, 6, 0, 0, 0), (31, .aload_n 0, 1, 0, 0, 0, 0), (32, .lload_n 1, 1, 0, 0, 0, 0), (33, .lload 5, 2, 0, 0, 0, 0), (35, .ldiv, 1, 0, 0, 0, 0), (36, .putfield 126, 3, 11, 3, 1443, 0), (39, .aload_n 0, 1, 0, 0, 0, 0), (40, .lload_n 3, 1, 0, 0, 0, 0), (41, .lload 5, 2, 0, 0, 0, 0), (43, .ldiv, 1, 0, 0, 0, 0), (44, .putfield 17, 3, 11, 4, 1444, 0), (47, .aload_n 0, 1, 0, 0, 0, 0), (48, .iconst 0, 1, 0, 0, 0, 0), (49, .invokevirtual 136, 3, 175, 2, 1688, 0), (52, .ireturn, 1, 0, 0, 0, 0)]
def x_t_X12_isTray : List (Nat × x_Row) := [(0, .iload_n 0, 1, 0, 0, 0, 0), (1, .ifCond .lt 12, 3, 13, 0, 0, 0), (4, .iload_n 0, 1, 0, 0, 0, 0), (5, .iconst 4, 1, 0, 0, 0, 0), (6, .if_icmp .ge 7, 3, 13, 0, 0, 0), (9, .iconst 1, 1, 0, 0, 0, 0), (10, .goto 4, 3, 14, 0, 0, 0), (13, .iconst 0, 1, 0, 0, 0, 0), (14, .ireturn, 1, 0, 0, 0, 0)]
def x_t_X12_cut : List (Nat × x_Row) := [(0, .iload_n 2, 1, 0, 0, 0, 0), (1, .ifCond .ne 10, 3, 11, 0, 0, 0), (4, .lload_n 0, 1, 0, 0, 0, 0), (5, .l2i, 1, 0, 0, 0, 0), (6, .i2b, 1, 0, 0, 0, 0), (7, .i2l, 1, 0, 0, 0, 0), (8, .goto 27, 3, 35, 0, 0, 0), (11, .iload_n 2, 1, 0, 0, 0, 0), (12, .iconst 1, 1, 0, 0, 0, 0), (13, .if_icmp .ne 10, 3, 23, 0, 0, 0), (16, .lload_n 0, 1, 0, 0, 0, 0), (17, .l2i, 1, 0, 0, 0, 0), (18, .i2s, 1, 0, 0, 0, 0), (19, .i2l, 1, 0, 0, 0, 0), (20, .goto 15, 3, 35, 0, 0, 0), (23, .iload_n 2, 1, 0, 0, 0, 0), (24, .iconst 2, 1, 0, 0, 0, 0), (25, .if_icmp .ne 9, 3, 34, 0, 0, 0), (28, .lload_n 0, 1, 0, 0, 0, 0), (29, .l2i, 1, 0, 0, 0, 0), (30, .i2l, 1, 0, 0, 0, 0), (31, .goto 4, 3, 35, 0, 0, 0), (34, .lload_n 0, 1, 0, 0, 0, 0), (35, .lreturn, 1, 0, 0, 0, 0)]
def x_t_X12_tray : List (Nat × x_Row) := [(0, .iload_n 1, 1, 0, 0, 0, 0), (1, .invokestatic 140, 3, 181, 1, 1685, 0), (4, .ifCond .eq 22, 3, 26, 0, 0, 0), (7, .iload_n 2, 1, 0, 0, 0, 0), (8, .ifCond .lt 18, 3, 26, 0, 0, 0), (11, .iload_n 2, 1, 0, 0, 0, 0), (12, .iconst 3, 1, 0, 0, 0, 0), (13, .if_icmp .gt 13, 3, 26, 0, 0, 0), (16, .iload_n 3, 1, 0, 0, 0, 0), (17, .ifCond .lt 9, 3, 26, 0, 0, 0), (20, .iload_n 3, 1, 0, 0, 0, 0), (21, .bipush 60, 2, 0, 0, 0, 0), (23, .if_icmp .le 9, 3, 32, 0, 0, 0), (26, .aload_n 0, 1, 0, 0, 0, 0), (27, .iconst 1, 1, 0, 0, 0, 0), (28, .invokevirtual 136, 3, 175, 2, 1688, 0), (31, .ireturn, 1, 0, 0, 0, 0), (32, .aload_n 0, 1, 0, 0, 0, 0), (33, .getfield 21, 3, 11, 5, 1445, 0), (36, .iload_n 1, 1, 0, 0, 0, 0), (37, .iload_n 2, 1, 0, 0, 0, 0), (38, .iastore, 1, 0, 0, 0, 0), (39, .aload_n 0, 1, 0, 0, 0, 0), (40, .getfield 24, 3, 11, 6, 1446, 0), (43, .iload_n 1, 1, 0, 0, 0, 0), (44, .iload_n 3, 1, 0, 0, 0, 0), (45, .iastore, 1, 0, 0, 0, 0), (46, .iconst 0, 1, 0, 0, 0, 0), (47, .istore 4, 2, 0, 0, 0, 0), (49, .iload 4, 2, 0, 0, 0, 0), (51, .iload_n 3, 1, 0, 0, 0, 0), (52, .if_icmp .ge 22, 3, 74, 0, 0, 0), (55, .aload_n 0, 1, 0, 0, 0, 0), (56, .getfield 27, 3, 11, 7, 1447, 0), (59, .bipush 60, 2, 0, 0, 0, 0), (61, .iload_n 1, 1, 0, 0, 0, 0), (62, .imul, 1, 0, 0, 0, 0), (63, .iload 4, 2, 0, 0, 0, 0), (65, .iadd, 1, 0, 0, 0, 0), (66, .lconst 0, 1, 0, 0, 0, 0), (67, .lastore, 1, 0, 0, 0, 0), (68, .iinc 4 1, 3, 0, 0, 0, 0), (71, .goto (-22), 3, 49, 0, 0, 0), (74, .aload_n 0, 1, 0, 0, 0, 0), (75, .iconst 0, 1, 0, 0, 0, 0), (76, .invokevirtual 136, 3, 175, 2, 1688, 0), (79, .ireturn, 1, 0, 0, 0, 0)]
def x_t_X12_wrongPlace : List (Nat × x_Row) := [(0, .iload_n 1, 1, 0, 0, 0, 0), (1, .invokestatic 140, 3, 181, 1, 1685, 0), (4, .ifCond .ne 7, 3, 11, 0, 0, 0), (7, .iconst 1, 1, 0, 0, 0, 0), (8, .goto 36, 3, 44, 0, 0, 0), (11, .aload_n 0, 1, 0, 0, 0, 0), (12, .getfield 24, 3, 11, 6, 1446, 0), (15, .iload_n 1, 1, 0, 0, 0, 0), (16, .iaload, 1, 0, 0, 0, 0), (17, .iconst (-1), 1, 0, 0, 0, 0), (18, .if_icmp .ne 7, 3, 25, 0, 0, 0), (21, .iconst 2, 1, 0, 0, 0, 0), (22, .goto 22, 3, 44, 0, 0, 0), (25, .iload_n 2, 1, 0, 0, 0, 0), (26, .ifCond .lt 13, 3, 39, 0, 0, 0), (29, .iload_n 2, 1, 0, 0, 0, 0), (30, .aload_n 0, 1, 0, 0, 0, 0), (31, .getfield 24, 3, 11, 6, 1446, 0), (34, .iload_n 1, 1, 0, 0, 0, 0), (35, .iaload, 1, 0, 0, 0, 0), (36, .if_icmp .lt 7, 3, 43, 0, 0, 0), (39, .iconst 3, 1, 0, 0, 0, 0), (40, .goto 4, 3, 44, 0, 0, 0), (43, .iconst 0, 1, 0, 0, 0, 0), (44, .ireturn, 1, 0, 0, 0, 0)]
def x_t_X12_write : List (Nat × x_Row) := [(0, .aload_n 0, 1, 0, 0, 0, 0), (1, .iload_n 1, 1, 0, 0, 0, 0), (2, .iload_n 2, 1, 0, 0, 0, 0), (3, .invokevirtual 143, 3, 184, 3, 1696, 0), (6, .istore 5, 2, 0, 0, 0, 0), (8, .iload 5, 2, 0, 0, 0, 0), (10, .ifCond .ne 24, 3, 34, 0, 0, 0), (13, .aload_n 0, 1, 0, 0, 0, 0), (14, .getfield 27, 3, 11, 7, 1447, 0), (17, .bipush 60, 2, 0, 0, 0, 0), (19, .iload_n 1, 1, 0, 0, 0, 0), (20, .imul, 1, 0, 0, 0, 0), (21, .iload_n 2, 1, 0, 0, 0, 0), (22, .iadd, 1, 0, 0, 0, 0), (23, .lload_n 3, 1, 0, 0, 0, 0), (24, .aload_n 0, 1, 0, 0, 0, 0), (25, .getfield 21, 3, 11, 5, 1445, 0), (28, .iload_n 1, 1, 0, 0, 0, 0), (29, .iaload, 1, 0, 0, 0, 0), (30, .invokestatic 147, 3, 182, 2, 1700, 0), (33, .lastore, 1, 0, 0, 0, 0), (34, .aload_n 0, 1, 0, 0, 0, 0), (35, .iload 5, 2, 0, 0, 0, 0), (37, .invokevirtual 136, 3, 175, 2, 1688, 0), (40, .ireturn, 1, 0, 0, 0, 0)]
def x_t_X12_read : List (Nat × x_Row) := [(0, .aload_n 0, 1, 0, 0, 0, 0), (1, .aload_n 0, 1, 0, 0, 0, 0), (2, .iload_n 1, 1, 0, 0, 0, 0), (3, .iload_n 2, 1, 0, 0, 0, 0), (4, .invokevirtual 143, 3, 184, 3, 1696, 0), (7, .putfield 123, 3, 11, 2, 1442, 0), (10, .aload_n 0, 1, 0, 0, 0, 0), (11, .getfield 123, 3, 11, 2, 1442, 0), (14, .ifCond .le 9, 3, 23, 0, 0, 0), (17, .ldc2_w 151, 3, 0, 0, 1707, -1), (20, .goto 14, 3, 34, 0, 0, 0), (23, .aload_n 0, 1, 0, 0, 0, 0), (24, .getfield 27, 3, 11, 7, 1447, 0), (27, .bipush 60, 2, 0, 0, 0, 0), (29, .iload_n 1, 1, 0, 0, 0, 0), (30, .imul, 1, 0, 0, 0, 0), (31, .iload_n 2, 1, 0, 0, 0, 0), (32, .iadd, 1, 0, 0, 0, 0), (33, .laload, 1, 0, 0, 0, 0), (34, .lreturn, 1, 0, 0, 0, 0)]
def x_t_X12_pour : List (Nat × x_Row) := [(0, .iload_n 1, 1, 0, 0, 0, 0), (1, .invokestatic 140, 3, 181, 1, 1685, 0), (4, .ifCond .eq 24, 3, 28, 0, 0, 0), (7, .iload_n 3, 1, 0, 0, 0, 0), (8, .invokestatic 140, 3, 181, 1, 1685, 0), (11, .ifCond .eq 17, 3, 28, 0, 0, 0), (14, .iload_n 2, 1, 0, 0, 0, 0), (15, .ifCond .lt 13, 3, 28, 0, 0, 0), (18, .iload 4, 2, 0, 0, 0, 0), (20, .ifCond .lt 8, 3, 28, 0, 0, 0), (23, .iload 5, 2, 0, 0, 0, 0), (25, .ifCond .ge 9, 3, 34, 0, 0, 0), (28, .aload_n 0, 1, 0, 0, 0, 0), (29, .iconst 1, 1, 0, 0, 0, 0), (30, .invokevirtual 136, 3, 175, 2, 1688, 0), (33, .ireturn, 1, 0, 0, 0, 0), (34, .aload_n 0, 1, 0, 0, 0, 0), (35, .getfield 24, 3, 11, 6, 1446, 0), (38, .iload_n 1, 1, 0, 0, 0, 0), (39, .iaload, 1, 0, 0, 0, 0), (40, .iconst (-1), 1, 0, 0, 0, 0), (41, .if_icmp .eq 13, 3, 54, 0, 0, 0), (44, .aload_n 0, 1, 0, 0, 0, 0), (45, .getfield 24, 3, 11, 6, 1446, 0), (48, .iload_n 3, 1, 0, 0, 0, 0), (49, .iaload, 1, 0, 0, 0, 0), (50, .iconst (-1), 1, 0, 0, 0, 0), (51, .if_icmp .ne 9, 3, 60, 0, 0, 0), (54, .aload_n 0, 1, 0, 0, 0, 0), (55, .iconst 2, 1, 0, 0, 0, 0), (56, .invokevirtual 136, 3, 175, 2, 1688, 0), (59, .ireturn, 1, 0, 0, 0, 0), (60, .aload_n 0, 1, 0, 0, 0, 0), (61, .getfield 21, 3, 11, 5, 1445, 0), (64, .iload_n 1, 1, 0, 0, 0, 0), (65, .iaload, 1, 0, 0, 0, 0), (66, .aload_n 0, 1, 0, 0, 0, 0), (67, .getfield 21, 3, 11, 5, 1445, 0), (70, .iload_n 3, 1, 0, 0, 0, 0), (71, .iaload, 1, 0, 0, 0, 0), (72, .if_icmp .eq 10, 3, 82, 0, 0, 0), (75, .aload_n 0, 1, 0, 0, 0, 0), (76, .bipush 8, 2, 0, 0, 0, 0), (78, .invokevirtual 136, 3, 175, 2, 1688, 0), (81, .ireturn, 1, 0, 0, 0, 0), (82, .iload 5, 2, 0, 0, 0, 0), (84, .aload_n 0, 1, 0, 0, 0, 0), (85, .getfield 24, 3, 11, 6, 1446, 0), (88, .iload_n 1, 1, 0, 0, 0, 0), (89, .iaload, 1, 0, 0, 0, 0), (90, .iload_n 2, 1, 0, 0, 0, 0), (91, .isub, 1, 0, 0, 0, 0), (92, .if_icmp .gt 17, 3, 109, 0, 0, 0), (95, .iload 5, 2, 0, 0, 0, 0), (97, .aload_n 0, 1, 0, 0, 0, 0), (98, .getfield 24, 3, 11, 6, 1446, 0), (101, .iload_n 3, 1, 0, 0, 0, 0), (102, .iaload, 1, 0, 0, 0, 0), (103, .iload 4, 2, 0, 0, 0, 0), (105, .isub, 1, 0, 0, 0, 0), (106, .if_icmp .le 9, 3, 115, 0, 0, 0), (109, .aload_n 0, 1, 0, 0, 0, 0), (110, .iconst 3, 1, 0, 0, 0, 0), (111, .invokevirtual 136, 3, 175, 2, 1688, 0), (114, .ireturn, 1, 0, 0, 0, 0), (115, .iconst 0, 1, 0, 0, 0, 0), (116, .istore 6, 2, 0, 0, 0, 0), (118, .iload 6, 2, 0, 0, 0, 0), (120, .iload 5, 2, 0, 0, 0, 0), (122, .if_icmp .ge 58, 3, 180, 0, 0, 0), (125, .iload_n 2, 1, 0, 0, 0, 0), (126, .iload 4, 2, 0, 0, 0, 0), (128, .if_icmp .ge 13, 3, 141, 0, 0, 0), (131, .iload 5, 2, 0, 0, 0, 0), (133, .iconst 1, 1, 0, 0, 0, 0), (134, .isub, 1, 0, 0, 0, 0), (135, .iload 6, 2, 0, 0, 0, 0), (137, .isub, 1, 0, 0, 0, 0), (138, .goto 5, 3, 143, 0, 0, 0), (141, .iload 6, 2, 0, 0, 0, 0), (143, .istore 7, 2, 0, 0, 0, 0), (145, .aload_n 0, 1, 0, 0, 0, 0), (146, .getfield 27, 3, 11, 7, 1447, 0), (149, .bipush 60, 2, 0, 0, 0, 0), (151, .iload_n 3, 1, 0, 0, 0, 0), (152, .imul, 1, 0, 0, 0, 0), (153, .iload 4, 2, 0, 0, 0, 0), (155, .iadd, 1, 0, 0, 0, 0), (156, .iload 7, 2, 0, 0, 0, 0), (158, .iadd, 1, 0, 0, 0, 0), (159, .aload_n 0, 1, 0, 0, 0, 0), (160, .getfield 27, 3, 11, 7, 1447, 0), (163, .bipush 60, 2, 0, 0, 0, 0), (165, .iload_n 1, 1, 0, 0, 0, 0), (166, .imul, 1, 0, 0, 0, 0), (167, .iload_n 2, 1, 0, 0, 0, 0), (168, .iadd, 1, 0, 0, 0, 0), (169, .iload 7, 2, 0, 0, 0, 0), (171, .iadd, 1, 0, 0, 0, 0), (172, .laload, 1, 0, 0, 0, 0), (173, .lastore, 1, 0, 0, 0, 0), (174, .iinc 6 1, 3, 0, 0, 0, 0), (177, .goto (-59), 3, 118, 0, 0, 0), (180, .aload_n 0, 1, 0, 0, 0, 0), (181, .iconst 0, 1, 0, 0, 0, 0), (182, .invokevirtual 136, 3, 175, 2, 1688, 0), (185, .ireturn, 1, 0, 0, 0, 0)]
def x_t_X12_isFrom : List (Nat × x_Row) := [(0, .lload_n 0, 1, 0, 0, 0, 0), (1, .lload_n 2, 1, 0, 0, 0, 0), (2, .lcmp, 1, 0, 0, 0, 0), (3, .ifCond .lt 14, 3, 17, 0, 0, 0), (6, .lload_n 0, 1, 0, 0, 0, 0), (7, .lload 4, 2, 0, 0, 0, 0), (9, .lcmp, 1, 0, 0, 0, 0), (10, .ifCond .gt 7, 3, 17, 0, 0, 0), (13, .iconst 1, 1, 0, 0, 0, 0), (14, .goto 4, 3, 18, 0, 0, 0), (17, .iconst 0, 1, 0, 0, 0, 0), (18, .ireturn, 1, 0, 0, 0, 0)]
def x_t_X12_feed : List (Nat × x_Row) := [(0, .aload_n 0, 1, 0, 0, 0, 0), (1, .getfield 153, 3, 11, 10, 1450, 0), (4, .bipush 20, 2, 0, 0, 0, 0), (6, .iadd, 1, 0, 0, 0, 0), (7, .sipush 900, 3, 0, 0, 0, 0), (10, .if_icmp .le 5, 3, 15, 0, 0, 0), (13, .iconst (-1), 1, 0, 0, 0, 0), (14, .ireturn, 1, 0, 0, 0, 0), (15, .aload_n 0, 1, 0, 0, 0, 0), (16, .iload_n 1, 1, 0, 0, 0, 0), (17, .invokevirtual 156, 3, 190, 2, 1716, 0), (20, .aload_n 0, 1, 0, 0, 0, 0), (21, .iload_n 2, 1, 0, 0, 0, 0), (22, .invokevirtual 156, 3, 190, 2, 1716, 0), (25, .aload_n 0, 1, 0, 0, 0, 0), (26, .iload_n 3, 1, 0, 0, 0, 0), (27, .invokevirtual 156, 3, 190, 2, 1716, 0), (30, .aload_n 0, 1, 0, 0, 0, 0), (31, .iload 4, 2, 0, 0, 0, 0), (33, .invokevirtual 156, 3, 190, 2, 1716, 0), (36, .aload_n 0, 1, 0, 0, 0, 0), (37, .iload 5, 2, 0, 0, 0, 0), (39, .invokevirtual 156, 3, 190, 2, 1716, 0), (42, .aload_n 0, 1, 0, 0, 0, 0), (43, .getfield 153, 3, 11, 10, 1450, 0), (46, .ireturn, 1, 0, 0, 0, 0)]
def x_t_X12_four : List (Nat × x_Row) := [(0, .bipush 24, 2, 0, 0, 0, 0), (2, .istore_n 2, 1, 0, 0, 0, 0), (3, .iload_n 2, 1, 0, 0, 0, 0), (4, .ifCond .lt 32, 3, 36, 0, 0, 0), (7, .aload_n 0, 1, 0, 0, 0, 0), (8, .getfield 30, 3, 11, 8, 1448, 0), (11, .aload_n 0, 1, 0, 0, 0, 0), (12, .getfield 153, 3, 11, 10, 1450, 0), (15, .iload_n 1, 1, 0, 0, 0, 0), (16, .iload_n 2, 1, 0, 0, 0, 0), (17, .ishr, 1, 0, 0, 0, 0), (18, .i2b, 1, 0, 0, 0, 0), (19, .bastore, 1, 0, 0, 0, 0), (20, .aload_n 0, 1, 0, 0, 0, 0), (21, .dup, 1, 0, 0, 0, 0), (22, .getfield 153, 3, 11, 10, 1450, 0), (25, .iconst 1, 1, 0, 0, 0, 0), (26, .iadd, 1, 0, 0, 0, 0), (27, .putfield 153, 3, 11, 10, 1450, 0), (30, .iinc 2 (-8), 3, 0, 0, 0, 0), (33, .goto (-30), 3, 3, 0, 0, 0), (36, .return_, 1, 0, 0, 0, 0)]
def x_t_X12_byteAt : List (Nat × x_Row) := [(0, .iload_n 1, 1, 0, 0, 0, 0), (1, .aload_n 0, 1, 0, 0, 0, 0), (2, .getfield 160, 3, 11, 11, 1451, 0), (5, .if_icmp .ge 16, 3, 21, 0, 0, 0), (8, .aload_n 0, 1, 0, 0, 0, 0), (9, .getfield 34, 3, 11, 9, 1449, 0), (12, .iload_n 1, 1, 0, 0, 0, 0), (13, .baload, 1, 0, 0, 0, 0), (14, .sipush 255, 3, 0, 0, 0, 0), (17, .iand, 1, 0, 0, 0, 0), (18, .goto 4, 3, 22, 0, 0, 0), (21, .iconst (-1), 1, 0, 0, 0, 0), (22, .ireturn, 1, 0, 0, 0, 0)]
def x_t_X12_isSmall : List (Nat × x_Row) := [(0, .iload_n 0, 1, 0, 0, 0, 0), (1, .bipush 97, 2, 0, 0, 0, 0), (3, .if_icmp .lt 13, 3, 16, 0, 0, 0), (6, .iload_n 0, 1, 0, 0, 0, 0), (7, .bipush 122, 2, 0, 0, 0, 0), (9, .if_icmp .gt 7, 3, 16, 0, 0, 0), (12, .iconst 1, 1, 0, 0, 0, 0), (13, .goto 4, 3, 17, 0, 0, 0), (16, .iconst 0, 1, 0, 0, 0, 0), (17, .ireturn, 1, 0, 0, 0, 0)]
def x_t_X12_isDigit : List (Nat × x_Row) := [(0, .iload_n 0, 1, 0, 0, 0, 0), (1, .bipush 48, 2, 0, 0, 0, 0), (3, .if_icmp .lt 13, 3, 16, 0, 0, 0), (6, .iload_n 0, 1, 0, 0, 0, 0), (7, .bipush 57, 2, 0, 0, 0, 0), (9, .if_icmp .gt 7, 3, 16, 0, 0, 0), (12, .iconst 1, 1, 0, 0, 0, 0), (13, .goto 4, 3, 17, 0, 0, 0), (16, .iconst 0, 1, 0, 0, 0, 0), (17, .ireturn, 1, 0, 0, 0, 0)]
def x_t_X12_ahead : List (Nat × x_Row) := [(0, .aload_n 0, 1, 0, 0, 0, 0), (1, .aload_n 0, 1, 0, 0, 0, 0), (2, .getfield 163, 3, 11, 14, 1454, 0), (5, .invokevirtual 166, 3, 191, 2, 1736, 0), (8, .bipush 32, 2, 0, 0, 0, 0), (10, .if_icmp .eq 16, 3, 26, 0, 0, 0), (13, .aload_n 0, 1, 0, 0, 0, 0), (14, .aload_n 0, 1, 0, 0, 0, 0), (15, .getfield 163, 3, 11, 14, 1454, 0), (18, .invokevirtual 166, 3, 191, 2, 1736, 0), (21, .bipush 10, 2, 0, 0, 0, 0), (23, .if_icmp .ne 16, 3, 39, 0, 0, 0), (26, .aload_n 0, 1, 0, 0, 0, 0), (27, .dup, 1, 0, 0, 0, 0), (28, .getfield 163, 3, 11, 14, 1454, 0), (31, .iconst 1, 1, 0, 0, 0, 0), (32, .iadd, 1, 0, 0, 0, 0), (33, .putfield 163, 3, 11, 14, 1454, 0), (36, .goto (-36), 3, 0, 0, 0, 0), (39, .aload_n 0, 1, 0, 0, 0, 0), (40, .aload_n 0, 1, 0, 0, 0, 0), (41, .getfield 163, 3, 11, 14, 1454, 0), (44, .putfield 169, 3, 11, 13, 1453, 0), (47, .aload_n 0, 1, 0, 0, 0, 0), (48, .aload_n 0, 1, 0, 0, 0, 0), (49, .getfield 163, 3, 11, 14, 1454, 0), (52, .invokevirtual 166, 3, 191, 2, 1736, 0), (55, .istore_n 1, 1, 0, 0, 0, 0), (56, .aload_n 0, 1, 0, 0, 0, 0), (57, .iload_n 1, 1, 0, 0, 0, 0), (58, .putfield 172, 3, 11, 15, 1455, 0), (61, .iload_n 1, 1, 0, 0, 0, 0), (62, .iconst (-1), 1, 0, 0, 0, 0), (63, .if_icmp .ne 11, 3, 74, 0, 0, 0), (66, .aload_n 0, 1, 0, 0, 0, 0), (67, .iconst 0, 1, 0, 0, 0, 0), (68, .putfield 175, 3, 11, 12, 1452, 0), (71, .goto 192, 3, 263, 0, 0, 0), (74, .iload_n 1, 1, 0, 0, 0, 0), (75, .invokestatic 178, 3, 192, 1, 1740, 0), (78, .ifCond .eq 38, 3, 116, 0, 0, 0), (81, .aload_n 0, 1, 0, 0, 0, 0), (82, .aload_n 0, 1, 0, 0, 0, 0), (83, .getfield 163, 3, 11, 14, 1454, 0), (86, .invokevirtual 166, 3, 191, 2, 1736, 0), (89, .invokestatic 178, 3, 192, 1, 1740, 0), (92, .ifCond .eq 16, 3, 108, 0, 0, 0), (95, .aload_n 0, 1, 0, 0, 0, 0), (96, .dup, 1, 0, 0, 0, 0), (97, .getfield 163, 3, 11, 14, 1454, 0), (100, .iconst 1, 1, 0, 0, 0, 0), (101, .iadd, 1, 0, 0, 0, 0), (102, .putfield 163, 3, 11, 14, 1454, 0), (105, .goto (-24), 3, 81, 0, 0, 0), (108, .aload_n 0, 1, 0, 0, 0, 0), (109, .iconst 2, 1, 0, 0, 0, 0), (110, .putfield 175, 3, 11, 12, 1452, 0), (113, .goto 150, 3, 263, 0, 0, 0), (116, .iload_n 1, 1, 0, 0, 0, 0), (117, .invokestatic 181, 3, 193, 1, 1743, 0), (120, .ifCond .eq 88, 3, 208, 0, 0, 0), (123, .aload_n 0, 1, 0, 0, 0, 0), (124, .iconst 0, 1, 0, 0, 0, 0), (125, .putfield 172, 3, 11, 15, 1455, 0), (128, .aload_n 0, 1, 0, 0, 0, 0), (129, .aload_n 0, 1, 0, 0, 0, 0), (130, .getfield 163, 3, 11, 14, 1454, 0), (133, .invokevirtual 166, 3, 191, 2, 1736, 0), (136, .invokestatic 181, 3, 193, 1, 1743, 0), (139, .ifCond .eq 44, 3, 183, 0, 0, 0), (142, .aload_n 0, 1, 0, 0, 0, 0), (143, .ldc 184, 2, 0, 0, 1746, 100000), (145, .bipush 10, 2, 0, 0, 0, 0), (147, .aload_n 0, 1, 0, 0, 0, 0), (148, .getfield 172, 3, 11, 15, 1455, 0), (151, .imul, 1, 0, 0, 0, 0), (152, .aload_n 0, 1, 0, 0, 0, 0), (153, .aload_n 0, 1, 0, 0, 0, 0), (154, .getfield 163, 3, 11, 14, 1454, 0), (157, .invokevirtual 166, 3, 191, 2, 1736, 0), (160, .iadd, 1, 0, 0, 0, 0), (161, .bipush 48, 2, 0, 0, 0, 0), (163, .isub, 1, 0, 0, 0, 0), (164, .invokestatic 185, 3, 1003, 0, 1747, 0), (167, .putfield 172, 3, 11, 15, 1455, 0), (170, .aload_n 0, 1, 0, 0, 0, 0), (171, .dup, 1, 0, 0, 0, 0), (172, .getfield 163, 3, 11, 14, 1454, 0), (175, .iconst 1, 1, 0, 0, 0, 0), (176, .iadd, 1, 0, 0, 0, 0), (177, .putfield 163, 3, 11, 14, 1454, 0), (180, .goto (-52), 3, 128, 0, 0, 0), (183, .aload_n 0, 1, 0, 0, 0, 0), (184, .aload_n 0, 1, 0, 0, 0, 0), (185, .getfield 163, 3, 11, 14, 1454, 0), (188, .aload_n 0, 1, 0, 0, 0, 0), (189, .getfield 169, 3, 11, 13, 1453, 0), (192, .isub, 1, 0, 0, 0, 0), (193, .iconst 4, 1, 0, 0, 0, 0), (194, .if_icmp .le 7, 3, 201, 0, 0, 0), (197, .iconst 1, 1, 0, 0, 0, 0), (198, .goto 4, 3, 202, 0, 0, 0), (201, .iconst 3, 1, 0, 0, 0, 0), (202, .putfield 175, 3, 11, 12, 1452, 0), (205, .goto 58, 3, 263, 0, 0, 0), (208, .aload_n 0, 1, 0, 0, 0, 0), (209, .dup, 1, 0, 0, 0, 0), (210, .getfield 163, 3, 11, 14, 1454, 0), (213, .iconst 1, 1, 0, 0, 0, 0), (214, .iadd, 1, 0, 0, 0, 0), (215, .putfield 163, 3, 11, 14, 1454, 0), (218, .aload_n 0, 1, 0, 0, 0, 0), (219, .iload_n 1, 1, 0, 0, 0, 0), (220, .bipush 59, 2, 0, 0, 0, 0), (222, .if_icmp .eq 33, 3, 255, 0, 0, 0), (225, .iload_n 1, 1, 0, 0, 0, 0), (226, .bipush 60, 2, 0, 0, 0, 0), (228, .if_icmp .eq 27, 3, 255, 0, 0, 0), (231, .iload_n 1, 1, 0, 0, 0, 0), (232, .bipush 62, 2, 0, 0, 0, 0), (234, .if_icmp .eq 21, 3, 255, 0, 0, 0), (237, .iload_n 1, 1, 0, 0, 0, 0), (238, .bipush 61, 2, 0, 0, 0, 0), (240, .if_icmp .eq 15, 3, 255, 0, 0, 0), (243, .iload_n 1, 1, 0, 0, 0, 0), (244, .bipush 40, 2, 0, 0, 0, 0), (246, .if_icmp .eq 9, 3, 255, 0, 0, 0), (249, .iload_n 1, 1, 0, 0, 0, 0), (250, .bipush 41, 2, 0, 0, 0, 0), (252, .if_icmp .ne 7, 3, 259, 0, 0, 0), (255, .iconst 4, 1, 0, 0, 0, 0), (256, .goto 4, 3, 260, 0, 0, 0), (259, .iconst 1, 1, 0, 0, 0, 0), (260, .putfield 175, 3, 11, 12, 1452, 0), (263, .return_, 1, 0, 0, 0, 0)]
def x_t_X12_isSign : List (Nat × x_Row) := [(0, .aload_n 0, 1, 0, 0, 0, 0), (1, .getfield 175, 3, 11, 12, 1452, 0), (4, .iconst 4, 1, 0, 0, 0, 0), (5, .if_icmp .ne 15, 3, 20, 0, 0, 0), (8, .aload_n 0, 1, 0, 0, 0, 0), (9, .getfield 172, 3, 11, 15, 1455, 0), (12, .iload_n 1, 1, 0, 0, 0, 0), (13, .if_icmp .ne 7, 3, 20, 0, 0, 0), (16, .iconst 1, 1, 0, 0, 0, 0), (17, .goto 4, 3, 21, 0, 0, 0), (20, .iconst 0, 1, 0, 0, 0, 0), (21, .ireturn, 1, 0, 0, 0, 0)]
def x_t_X12_inWords : List (Nat × x_Row) := [(0, .aload_n 0, 1, 0, 0, 0, 0), (1, .getfield 175, 3, 11, 12, 1452, 0), (4, .iconst 2, 1, 0, 0, 0, 0), (5, .if_icmp .eq 5, 3, 10, 0, 0, 0), (8, .iconst (-1), 1, 0, 0, 0, 0), (9, .ireturn, 1, 0, 0, 0, 0), (10, .iconst 0, 1, 0, 0, 0, 0), (11, .istore_n 2, 1, 0, 0, 0, 0), (12, .iconst 1, 1, 0, 0, 0, 0), (13, .istore_n 3, 1, 0, 0, 0, 0), (14, .iload_n 3, 1, 0, 0, 0, 0), (15, .aload_n 1, 1, 0, 0, 0, 0), (16, .invokevirtual 190, 3, 317, 1, 1761, 0), (19, .if_icmp .ge 114, 3, 133, 0, 0, 0), (22, .iload_n 3, 1, 0, 0, 0, 0), (23, .istore 4, 2, 0, 0, 0, 0), (25, .aload_n 1, 1, 0, 0, 0, 0), (26, .iload 4, 2, 0, 0, 0, 0), (28, .invokevirtual 196, 3, 318, 2, 1771, 0), (31, .bipush 32, 2, 0, 0, 0, 0), (33, .if_icmp .eq 9, 3, 42, 0, 0, 0), (36, .iinc 4 1, 3, 0, 0, 0, 0), (39, .goto (-14), 3, 25, 0, 0, 0), (42, .iload 4, 2, 0, 0, 0, 0), (44, .iload_n 3, 1, 0, 0, 0, 0), (45, .isub, 1, 0, 0, 0, 0), (46, .aload_n 0, 1, 0, 0, 0, 0), (47, .getfield 163, 3, 11, 14, 1454, 0), (50, .aload_n 0, 1, 0, 0, 0, 0), (51, .getfield 169, 3, 11, 13, 1453, 0), (54, .isub, 1, 0, 0, 0, 0), (55, .if_icmp .ne 7, 3, 62, 0, 0, 0), (58, .iconst 1, 1, 0, 0, 0, 0), (59, .goto 4, 3, 63, 0, 0, 0), (62, .iconst 0, 1, 0, 0, 0, 0), (63, .istore 5, 2, 0, 0, 0, 0), (65, .iload_n 3, 1, 0, 0, 0, 0), (66, .istore 6, 2, 0, 0, 0, 0), (68, .iload 6, 2, 0, 0, 0, 0), (70, .iload 4, 2, 0, 0, 0, 0), (72, .if_icmp .ge 43, 3, 115, 0, 0, 0), (75, .iload 5, 2, 0, 0, 0, 0), (77, .ifCond .eq 38, 3, 115, 0, 0, 0), (80, .aload_n 1, 1, 0, 0, 0, 0), (81, .iload 6, 2, 0, 0, 0, 0), (83, .invokevirtual 196, 3, 318, 2, 1771, 0), (86, .aload_n 0, 1, 0, 0, 0, 0), (87, .aload_n 0, 1, 0, 0, 0, 0), (88, .getfield 169, 3, 11, 13, 1453, 0), (91, .iload 6, 2, 0, 0, 0, 0), (93, .iadd, 1, 0, 0, 0, 0), (94, .iload_n 3, 1, 0, 0, 0, 0), (95, .isub, 1, 0, 0, 0, 0), (96, .invokevirtual 166, 3, 191, 2, 1736, 0), (99, .if_icmp .ne 7, 3, 106, 0, 0, 0), (102, .iconst 1, 1, 0, 0, 0, 0), (103, .goto 4, 3, 107, 0, 0, 0), (106, .iconst 0, 1, 0, 0, 0, 0), (107, .istore 5, 2, 0, 0, 0, 0), (109, .iinc 6 1, 3, 0, 0, 0, 0), (112, .goto (-44), 3, 68, 0, 0, 0), (115, .iload 5, 2, 0, 0, 0, 0), (117, .ifCond .eq 5, 3, 122, 0, 0, 0), (120, .iload_n 2, 1, 0, 0, 0, 0), (121, .ireturn, 1, 0, 0, 0, 0), (122, .iinc 2 1, 3, 0, 0, 0, 0), (125, .iload 4, 2, 0, 0, 0, 0), (127, .iconst 1, 1, 0, 0, 0, 0), (128, .iadd, 1, 0, 0, 0, 0), (129, .istore_n 3, 1, 0, 0, 0, 0), (130, .goto (-116), 3, 14, 0, 0, 0), (133, .iconst (-1), 1, 0, 0, 0, 0), (134, .ireturn, 1, 0, 0, 0, 0)]
def x_t_X12_fails : List (Nat × x_Row) := [(0, .aload_n 0, 1, 0, 0, 0, 0), (1, .getfield 200, 3, 11, 18, 1458, 0), (4, .ifCond .ne 28, 3, 32, 0, 0, 0), (7, .aload_n 0, 1, 0, 0, 0, 0), (8, .aload_n 0, 1, 0, 0, 0, 0), (9, .getfield 175, 3, 11, 12, 1452, 0), (12, .iconst 1, 1, 0, 0, 0, 0), (13, .if_icmp .ne 7, 3, 20, 0, 0, 0), (16, .iconst 1, 1, 0, 0, 0, 0), (17, .goto 4, 3, 21, 0, 0, 0), (20, .iload_n 1, 1, 0, 0, 0, 0), (21, .putfield 200, 3, 11, 18, 1458, 0), (24, .aload_n 0, 1, 0, 0, 0, 0), (25, .aload_n 0, 1, 0, 0, 0, 0), (26, .getfield 169, 3, 11, 13, 1453, 0), (29, .putfield 41, 3, 11, 17, 1457, 0), (32, .iconst 0, 1, 0, 0, 0, 0), (33, .ireturn, 1, 0, 0, 0, 0)]
def x_t_X12_begins : List (Nat × x_Row) := [(0, .iload_n 1, 1, 0, 0, 0, 0), (1, .ifCond .lt 16, 3, 17, 0, 0, 0), (4, .iload_n 1, 1, 0, 0, 0, 0), (5, .aload_n 0, 1, 0, 0, 0, 0), (6, .getfield 153, 3, 11, 10, 1450, 0), (9, .if_icmp .gt 8, 3, 17, 0, 0, 0), (12, .iload_n 1, 1, 0, 0, 0, 0), (13, .iload_n 2, 1, 0, 0, 0, 0), (14, .if_icmp .le 5, 3, 19, 0, 0, 0), (17, .iconst 0, 1, 0, 0, 0, 0), (18, .ireturn, 1, 0, 0, 0, 0), (19, .aload_n 0, 1, 0, 0, 0, 0), (20, .iload_n 1, 1, 0, 0, 0, 0), (21, .putfield 160, 3, 11, 11, 1451, 0), (24, .iconst 0, 1, 0, 0, 0, 0), (25, .istore_n 3, 1, 0, 0, 0, 0), (26, .iload_n 3, 1, 0, 0, 0, 0), (27, .iload_n 1, 1, 0, 0, 0, 0), (28, .if_icmp .ge 21, 3, 49, 0, 0, 0), (31, .aload_n 0, 1, 0, 0, 0, 0), (32, .getfield 34, 3, 11, 9, 1449, 0), (35, .iload_n 3, 1, 0, 0, 0, 0), (36, .aload_n 0, 1, 0, 0, 0, 0), (37, .getfield 30, 3, 11, 8, 1448, 0), (40, .iload_n 3, 1, 0, 0, 0, 0), (41, .baload, 1, 0, 0, 0, 0), (42, .bastore, 1, 0, 0, 0, 0), (43, .iinc 3 1, 3, 0, 0, 0, 0), (46, .goto (-20), 3, 26, 0, 0, 0), (49, .aload_n 0, 1, 0, 0, 0, 0), (50, .iconst 0, 1, 0, 0, 0, 0), (51, .putfield 153, 3, 11, 10, 1450, 0), (54, .aload_n 0, 1, 0, 0, 0, 0), (55, .iconst 0, 1, 0, 0, 0, 0), (56, .putfield 200, 3, 11, 18, 1458, 0), (59, .aload_n 0, 1, 0, 0, 0, 0), (60, .iconst (-1), 1, 0, 0, 0, 0), (61, .putfield 41, 3, 11, 17, 1457, 0), (64, .aload_n 0, 1, 0, 0, 0, 0), (65, .iconst 0, 1, 0, 0, 0, 0), (66, .putfield 163, 3, 11, 14, 1454, 0), (69, .aload_n 0, 1, 0, 0, 0, 0), (70, .iconst 0, 1, 0, 0, 0, 0), (71, .putfield 203, 3, 11, 19, 1459, 0), (74, .aload_n 0, 1, 0, 0, 0, 0), (75, .invokevirtual 206, 3, 194, 1, 1732, 0), (78, .iconst 1, 1, 0, 0, 0, 0), (79, .ireturn, 1, 0, 0, 0, 0)]
def x_t_X12_wantSign : List (Nat × x_Row) := [(0, .aload_n 0, 1, 0, 0, 0, 0), (1, .iload_n 1, 1, 0, 0, 0, 0), (2, .invokevirtual 209, 3, 195, 2, 1865, 0), (5, .ifCond .ne 9, 3, 14, 0, 0, 0), (8, .aload_n 0, 1, 0, 0, 0, 0), (9, .iconst 2, 1, 0, 0, 0, 0), (10, .invokevirtual 212, 3, 197, 2, 1813, 0), (13, .ireturn, 1, 0, 0, 0, 0), (14, .aload_n 0, 1, 0, 0, 0, 0), (15, .invokevirtual 206, 3, 194, 1, 1732, 0), (18, .iconst 1, 1, 0, 0, 0, 0), (19, .ireturn, 1, 0, 0, 0, 0)]
def x_t_X12_wantWord : List (Nat × x_Row) := [(0, .aload_n 0, 1, 0, 0, 0, 0), (1, .aload_n 1, 1, 0, 0, 0, 0), (2, .invokevirtual 215, 3, 196, 2, 1757, 0), (5, .iload_n 2, 1, 0, 0, 0, 0), (6, .if_icmp .eq 9, 3, 15, 0, 0, 0), (9, .aload_n 0, 1, 0, 0, 0, 0), (10, .iconst 2, 1, 0, 0, 0, 0), (11, .invokevirtual 212, 3, 197, 2, 1813, 0), (14, .ireturn, 1, 0, 0, 0, 0), (15, .aload_n 0, 1, 0, 0, 0, 0), (16, .invokevirtual 206, 3, 194, 1, 1732, 0), (19, .iconst 1, 1, 0, 0, 0, 0), (20, .ireturn, 1, 0, 0, 0, 0)]
def x_t_X12_number : List (Nat × x_Row) := [(0, .aload_n 0, 1, 0, 0, 0, 0), (1, .getfield 175, 3, 11, 12, 1452, 0), (4, .iconst 3, 1, 0, 0, 0, 0), (5, .if_icmp .eq 9, 3, 14, 0, 0, 0), (8, .aload_n 0, 1, 0, 0, 0, 0), (9, .iconst 2, 1, 0, 0, 0, 0), (10, .invokevirtual 212, 3, 197, 2, 1813, 0), (13, .ireturn, 1, 0, 0, 0, 0), (14, .aload_n 0, 1, 0, 0, 0, 0), (15, .getfield 172, 3, 11, 15, 1455, 0), (18, .iload_n 2, 1, 0, 0, 0, 0), (19, .if_icmp .lt 11, 3, 30, 0, 0, 0), (22, .aload_n 0, 1, 0, 0, 0, 0), (23, .getfield 172, 3, 11, 15, 1455, 0), (26, .iload_n 3, 1, 0, 0, 0, 0), (27, .if_icmp .le 9, 3, 36, 0, 0, 0), (30, .aload_n 0, 1, 0, 0, 0, 0), (31, .iconst 4, 1, 0, 0, 0, 0), (32, .invokevirtual 212, 3, 197, 2, 1813, 0), (35, .ireturn, 1, 0, 0, 0, 0), (36, .aload_n 0, 1, 0, 0, 0, 0), (37, .getfield 7, 3, 11, 0, 1440, 0), (40, .iload_n 1, 1, 0, 0, 0, 0), (41, .aload_n 0, 1, 0, 0, 0, 0), (42, .getfield 172, 3, 11, 15, 1455, 0), (45, .iastore, 1, 0, 0, 0, 0), (46, .aload_n 0, 1, 0, 0, 0, 0), (47, .invokevirtual 206, 3, 194, 1, 1732, 0), (50, .iconst 1, 1, 0, 0, 0, 0), (51, .ireturn, 1, 0, 0, 0, 0)]
def x_t_X12_isName : List (Nat × x_Row) := [(0, .aload_n 0, 1, 0, 0, 0, 0), (1, .getfield 175, 3, 11, 12, 1452, 0), (4, .iconst 2, 1, 0, 0, 0, 0), (5, .if_icmp .ne 30, 3, 35, 0, 0, 0), (8, .aload_n 0, 1, 0, 0, 0, 0), (9, .getfield 163, 3, 11, 14, 1454, 0), (12, .aload_n 0, 1, 0, 0, 0, 0), (13, .getfield 169, 3, 11, 13, 1453, 0), (16, .isub, 1, 0, 0, 0, 0), (17, .bipush 8, 2, 0, 0, 0, 0), (19, .if_icmp .gt 16, 3, 35, 0, 0, 0), (22, .aload_n 0, 1, 0, 0, 0, 0), (23, .aload_n 1, 1, 0, 0, 0, 0), (24, .invokevirtual 215, 3, 196, 2, 1757, 0), (27, .iconst (-1), 1, 0, 0, 0, 0), (28, .if_icmp .ne 7, 3, 35, 0, 0, 0), (31, .iconst 1, 1, 0, 0, 0, 0), (32, .goto 4, 3, 36, 0, 0, 0), (35, .iconst 0, 1, 0, 0, 0, 0), (36, .ireturn, 1, 0, 0, 0, 0)]
def x_t_X12_nameHere : List (Nat × x_Row) := [(0, .lconst 0, 1, 0, 0, 0, 0), (1, .lstore_n 1, 1, 0, 0, 0, 0), (2, .aload_n 0, 1, 0, 0, 0, 0), (3, .getfield 169, 3, 11, 13, 1453, 0), (6, .istore_n 3, 1, 0, 0, 0, 0), (7, .iload_n 3, 1, 0, 0, 0, 0), (8, .aload_n 0, 1, 0, 0, 0, 0), (9, .getfield 163, 3, 11, 14, 1454, 0), (12, .if_icmp .ge 21, 3, 33, 0, 0, 0), (15, .lload_n 1, 1, 0, 0, 0, 0), (16, .bipush 8, 2, 0, 0, 0, 0), (18, .lshl, 1, 0, 0, 0, 0), (19, .aload_n 0, 1, 0, 0, 0, 0), (20, .iload_n 3, 1, 0, 0, 0, 0), (21, .invokevirtual 166, 3, 191, 2, 1736, 0), (24, .i2l, 1, 0, 0, 0, 0), (25, .lor, 1, 0, 0, 0, 0), (26, .lstore_n 1, 1, 0, 0, 0, 0), (27, .iinc 3 1, 3, 0, 0, 0, 0), (30, .goto (-23), 3, 7, 0, 0, 0), (33, .lload_n 1, 1, 0, 0, 0, 0), (34, .lreturn, 1, 0, 0, 0, 0)]
def x_t_X12_findHere : List (Nat × x_Row) := [(0, .iconst 0, 1, 0, 0, 0, 0), (1, .istore_n 3, 1, 0, 0, 0, 0), (2, .iload_n 3, 1, 0, 0, 0, 0), (3, .iload_n 2, 1, 0, 0, 0, 0), (4, .if_icmp .ge 27, 3, 31, 0, 0, 0), (7, .aload_n 0, 1, 0, 0, 0, 0), (8, .getfield 13, 3, 11, 1, 1441, 0), (11, .iload_n 1, 1, 0, 0, 0, 0), (12, .iload_n 3, 1, 0, 0, 0, 0), (13, .iadd, 1, 0, 0, 0, 0), (14, .laload, 1, 0, 0, 0, 0), (15, .aload_n 0, 1, 0, 0, 0, 0), (16, .invokevirtual 219, 3, 203, 1, 1829, 0), (19, .lcmp, 1, 0, 0, 0, 0), (20, .ifCond .ne 5, 3, 25, 0, 0, 0), (23, .iload_n 3, 1, 0, 0, 0, 0), (24, .ireturn, 1, 0, 0, 0, 0), (25, .iinc 3 1, 3, 0, 0, 0, 0), (28, .goto (-26), 3, 2, 0, 0, 0), (31, .iconst (-1), 1, 0, 0, 0, 0), (32, .ireturn, 1, 0, 0, 0, 0)]
def x_t_X12_fault : List (Nat × x_Row) := [(0, .iload_n 1, 1, 0, 0, 0, 0), (1, .ifCond .ne 10, 3, 11, 0, 0, 0), (4, .aload_n 0, 1, 0, 0, 0, 0), (5, .getfield 37, 3, 11, 16, 1456, 0), (8, .goto 16, 3, 24, 0, 0, 0), (11, .iload_n 1, 1, 0, 0, 0, 0), (12, .iconst 1, 1, 0, 0, 0, 0), (13, .if_icmp .ne 10, 3, 23, 0, 0, 0), (16, .aload_n 0, 1, 0, 0, 0, 0), (17, .getfield 41, 3, 11, 17, 1457, 0), (20, .goto 4, 3, 24, 0, 0, 0), (23, .iconst (-1), 1, 0, 0, 0, 0), (24, .ireturn, 1, 0, 0, 0, 0)]
def x_t_X12_taken : List (Nat × x_Row) := [(0, .aload_n 0, 1, 0, 0, 0, 0), (1, .aload_n 0, 1, 0, 0, 0, 0), (2, .getfield 200, 3, 11, 18, 1458, 0), (5, .putfield 37, 3, 11, 16, 1456, 0), (8, .aload_n 0, 1, 0, 0, 0, 0), (9, .getfield 200, 3, 11, 18, 1458, 0), (12, .ifCond .le 12, 3, 24, 0, 0, 0), (15, .aload_n 0, 1, 0, 0, 0, 0), (16, .bipush 9, 2, 0, 0, 0, 0), (18, .invokevirtual 129, 3, 176, 2, 1748, 0), (21, .goto 8, 3, 29, 0, 0, 0), (24, .aload_n 0, 1, 0, 0, 0, 0), (25, .iload_n 1, 1, 0, 0, 0, 0), (26, .invokevirtual 133, 3, 177, 2, 1873, 0), (29, .ireturn, 1, 0, 0, 0, 0)]
def x_t_X12_aNewName : List (Nat × x_Row) := [(0, .aload_n 0, 1, 0, 0, 0, 0), (1, .invokevirtual 206, 3, 194, 1, 1732, 0), (4, .aload_n 0, 1, 0, 0, 0, 0), (5, .ldc 223, 2, 1, 0, 1756, 0), (7, .invokevirtual 225, 3, 202, 2, 1821, 0), (10, .ifCond .ne 9, 3, 19, 0, 0, 0), (13, .aload_n 0, 1, 0, 0, 0, 0), (14, .iconst 2, 1, 0, 0, 0, 0), (15, .invokevirtual 212, 3, 197, 2, 1813, 0), (18, .ireturn, 1, 0, 0, 0, 0), (19, .aload_n 0, 1, 0, 0, 0, 0), (20, .bipush 72, 2, 0, 0, 0, 0), (22, .aload_n 0, 1, 0, 0, 0, 0), (23, .getfield 7, 3, 11, 0, 1440, 0), (26, .sipush 1400, 3, 0, 0, 0, 0), (29, .iaload, 1, 0, 0, 0, 0), (30, .invokevirtual 229, 3, 204, 3, 1825, 0), (33, .iconst (-1), 1, 0, 0, 0, 0), (34, .if_icmp .ne 39, 3, 73, 0, 0, 0), (37, .aload_n 0, 1, 0, 0, 0, 0), (38, .bipush 78, 2, 0, 0, 0, 0), (40, .aload_n 0, 1, 0, 0, 0, 0), (41, .getfield 7, 3, 11, 0, 1440, 0), (44, .sipush 1401, 3, 0, 0, 0, 0), (47, .iaload, 1, 0, 0, 0, 0), (48, .invokevirtual 229, 3, 204, 3, 1825, 0), (51, .iconst (-1), 1, 0, 0, 0, 0), (52, .if_icmp .ne 21, 3, 73, 0, 0, 0), (55, .aload_n 0, 1, 0, 0, 0, 0), (56, .bipush 84, 2, 0, 0, 0, 0), (58, .aload_n 0, 1, 0, 0, 0, 0), (59, .getfield 7, 3, 11, 0, 1440, 0), (62, .sipush 1402, 3, 0, 0, 0, 0), (65, .iaload, 1, 0, 0, 0, 0), (66, .invokevirtual 229, 3, 204, 3, 1825, 0), (69, .iconst (-1), 1, 0, 0, 0, 0), (70, .if_icmp .eq 9, 3, 79, 0, 0, 0), (73, .aload_n 0, 1, 0, 0, 0, 0), (74, .iconst 3, 1, 0, 0, 0, 0), (75, .invokevirtual 212, 3, 197, 2, 1813, 0), (78, .ireturn, 1, 0, 0, 0, 0), (79, .aload_n 0, 1, 0, 0, 0, 0), (80, .getfield 13, 3, 11, 1, 1441, 0), (83, .bipush 72, 2, 0, 0, 0, 0), (85, .iload_n 1, 1, 0, 0, 0, 0), (86, .iadd, 1, 0, 0, 0, 0), (87, .aload_n 0, 1, 0, 0, 0, 0), (88, .invokevirtual 219, 3, 203, 1, 1829, 0), (91, .lastore, 1, 0, 0, 0, 0), (92, .aload_n 0, 1, 0, 0, 0, 0), (93, .invokevirtual 206, 3, 194, 1, 1732, 0), (96, .iconst 1, 1, 0, 0, 0, 0), (97, .ireturn, 1, 0, 0, 0, 0)]
def x_t_X12_areBlasts : List (Nat × x_Row) := [(0, .aload_n 0, 1, 0, 0, 0, 0), (1, .getfield 175, 3, 11, 12, 1452, 0), (4, .iconst 2, 1, 0, 0, 0, 0), (5, .if_icmp .ne 17, 3, 22, 0, 0, 0), (8, .aload_n 0, 1, 0, 0, 0, 0), (9, .getfield 163, 3, 11, 14, 1454, 0), (12, .aload_n 0, 1, 0, 0, 0, 0), (13, .getfield 169, 3, 11, 13, 1453, 0), (16, .isub, 1, 0, 0, 0, 0), (17, .bipush 6, 2, 0, 0, 0, 0), (19, .if_icmp .le 5, 3, 24, 0, 0, 0), (22, .iconst 0, 1, 0, 0, 0, 0), (23, .ireturn, 1, 0, 0, 0, 0), (24, .aload_n 0, 1, 0, 0, 0, 0), (25, .getfield 169, 3, 11, 13, 1453, 0), (28, .istore_n 1, 1, 0, 0, 0, 0), (29, .iload_n 1, 1, 0, 0, 0, 0), (30, .aload_n 0, 1, 0, 0, 0, 0), (31, .getfield 163, 3, 11, 14, 1454, 0), (34, .if_icmp .ge 31, 3, 65, 0, 0, 0), (37, .aload_n 0, 1, 0, 0, 0, 0), (38, .iload_n 1, 1, 0, 0, 0, 0), (39, .invokevirtual 166, 3, 191, 2, 1736, 0), (42, .bipush 108, 2, 0, 0, 0, 0), (44, .if_icmp .eq 15, 3, 59, 0, 0, 0), (47, .aload_n 0, 1, 0, 0, 0, 0), (48, .iload_n 1, 1, 0, 0, 0, 0), (49, .invokevirtual 166, 3, 191, 2, 1736, 0), (52, .bipush 115, 2, 0, 0, 0, 0), (54, .if_icmp .eq 5, 3, 59, 0, 0, 0), (57, .iconst 0, 1, 0, 0, 0, 0), (58, .ireturn, 1, 0, 0, 0, 0), (59, .iinc 1 1, 3, 0, 0, 0, 0), (62, .goto (-33), 3, 29, 0, 0, 0), (65, .iconst 1, 1, 0, 0, 0, 0), (66, .ireturn, 1, 0, 0, 0, 0)]
def x_t_X12_aPort : List (Nat × x_Row) := [(0, .aload_n 0, 1, 0, 0, 0, 0), (1, .getfield 7, 3, 11, 0, 1440, 0), (4, .sipush 1400, 3, 0, 0, 0, 0), (7, .iaload, 1, 0, 0, 0, 0), (8, .istore_n 1, 1, 0, 0, 0, 0), (9, .sipush 1410, 3, 0, 0, 0, 0), (12, .bipush 7, 2, 0, 0, 0, 0), (14, .iload_n 1, 1, 0, 0, 0, 0), (15, .imul, 1, 0, 0, 0, 0), (16, .iadd, 1, 0, 0, 0, 0), (17, .istore_n 2, 1, 0, 0, 0, 0), (18, .iload_n 1, 1, 0, 0, 0, 0), (19, .bipush 6, 2, 0, 0, 0, 0), (21, .if_icmp .ne 10, 3, 31, 0, 0, 0), (24, .aload_n 0, 1, 0, 0, 0, 0), (25, .bipush 6, 2, 0, 0, 0, 0), (27, .invokevirtual 212, 3, 197, 2, 1813, 0), (30, .ireturn, 1, 0, 0, 0, 0), (31, .aload_n 0, 1, 0, 0, 0, 0), (32, .iload_n 1, 1, 0, 0, 0, 0), (33, .invokevirtual 232, 3, 207, 2, 1817, 0), (36, .ifCond .eq 14, 3, 50, 0, 0, 0), (39, .aload_n 0, 1, 0, 0, 0, 0), (40, .ldc 223, 2, 1, 0, 1756, 0), (42, .bipush 6, 2, 0, 0, 0, 0), (44, .invokevirtual 235, 3, 200, 3, 1833, 0), (47, .ifCond .ne 5, 3, 52, 0, 0, 0), (50, .iconst 0, 1, 0, 0, 0, 0), (51, .ireturn, 1, 0, 0, 0, 0), (52, .aload_n 0, 1, 0, 0, 0, 0), (53, .invokevirtual 239, 3, 208, 1, 1837, 0), (56, .ifCond .ne 9, 3, 65, 0, 0, 0), (59, .aload_n 0, 1, 0, 0, 0, 0), (60, .iconst 2, 1, 0, 0, 0, 0), (61, .invokevirtual 212, 3, 197, 2, 1813, 0), (64, .ireturn, 1, 0, 0, 0, 0), (65, .aload_n 0, 1, 0, 0, 0, 0), (66, .getfield 7, 3, 11, 0, 1440, 0), (69, .iload_n 2, 1, 0, 0, 0, 0), (70, .aload_n 0, 1, 0, 0, 0, 0), (71, .getfield 163, 3, 11, 14, 1454, 0), (74, .aload_n 0, 1, 0, 0, 0, 0), (75, .getfield 169, 3, 11, 13, 1453, 0), (78, .isub, 1, 0, 0, 0, 0), (79, .iastore, 1, 0, 0, 0, 0), (80, .iconst 0, 1, 0, 0, 0, 0), (81, .istore_n 3, 1, 0, 0, 0, 0), (82, .iload_n 3, 1, 0, 0, 0, 0), (83, .bipush 6, 2, 0, 0, 0, 0), (85, .if_icmp .ge 43, 3, 128, 0, 0, 0), (88, .aload_n 0, 1, 0, 0, 0, 0), (89, .getfield 7, 3, 11, 0, 1440, 0), (92, .iload_n 2, 1, 0, 0, 0, 0), (93, .iconst 1, 1, 0, 0, 0, 0), (94, .iadd, 1, 0, 0, 0, 0), (95, .iload_n 3, 1, 0, 0, 0, 0), (96, .iadd, 1, 0, 0, 0, 0), (97, .iload_n 3, 1, 0, 0, 0, 0), (98, .aload_n 0, 1, 0, 0, 0, 0), (99, .getfield 7, 3, 11, 0, 1440, 0), (102, .iload_n 2, 1, 0, 0, 0, 0), (103, .iaload, 1, 0, 0, 0, 0), (104, .if_icmp .ge 16, 3, 120, 0, 0, 0), (107, .aload_n 0, 1, 0, 0, 0, 0), (108, .aload_n 0, 1, 0, 0, 0, 0), (109, .getfield 169, 3, 11, 13, 1453, 0), (112, .iload_n 3, 1, 0, 0, 0, 0), (113, .iadd, 1, 0, 0, 0, 0), (114, .invokevirtual 166, 3, 191, 2, 1736, 0), (117, .goto 4, 3, 121, 0, 0, 0), (120, .iconst 0, 1, 0, 0, 0, 0), (121, .iastore, 1, 0, 0, 0, 0), (122, .iinc 3 1, 3, 0, 0, 0, 0), (125, .goto (-43), 3, 82, 0, 0, 0), (128, .sipush 1410, 3, 0, 0, 0, 0), (131, .istore_n 3, 1, 0, 0, 0, 0), (132, .iload_n 3, 1, 0, 0, 0, 0), (133, .iload_n 2, 1, 0, 0, 0, 0), (134, .if_icmp .ge 72, 3, 206, 0, 0, 0), (137, .iconst 1, 1, 0, 0, 0, 0), (138, .istore 4, 2, 0, 0, 0, 0), (140, .iconst 0, 1, 0, 0, 0, 0), (141, .istore 5, 2, 0, 0, 0, 0), (143, .iload 5, 2, 0, 0, 0, 0), (145, .bipush 7, 2, 0, 0, 0, 0), (147, .if_icmp .ge 42, 3, 189, 0, 0, 0), (150, .iload 4, 2, 0, 0, 0, 0), (152, .ifCond .eq 28, 3, 180, 0, 0, 0), (155, .aload_n 0, 1, 0, 0, 0, 0), (156, .getfield 7, 3, 11, 0, 1440, 0), (159, .iload_n 3, 1, 0, 0, 0, 0), (160, .iload 5, 2, 0, 0, 0, 0), (162, .iadd, 1, 0, 0, 0, 0), (163, .iaload, 1, 0, 0, 0, 0), (164, .aload_n 0, 1, 0, 0, 0, 0), (165, .getfield 7, 3, 11, 0, 1440, 0), (168, .iload_n 2, 1, 0, 0, 0, 0), (169, .iload 5, 2, 0, 0, 0, 0), (171, .iadd, 1, 0, 0, 0, 0), (172, .iaload, 1, 0, 0, 0, 0), (173, .if_icmp .ne 7, 3, 180, 0, 0, 0), (176, .iconst 1, 1, 0, 0, 0, 0), (177, .goto 4, 3, 181, 0, 0, 0), (180, .iconst 0, 1, 0, 0, 0, 0), (181, .istore 4, 2, 0, 0, 0, 0), (183, .iinc 5 1, 3, 0, 0, 0, 0), (186, .goto (-43), 3, 143, 0, 0, 0), (189, .iload 4, 2, 0, 0, 0, 0), (191, .ifCond .eq 9, 3, 200, 0, 0, 0), (194, .aload_n 0, 1, 0, 0, 0, 0), (195, .iconst 5, 1, 0, 0, 0, 0), (196, .invokevirtual 212, 3, 197, 2, 1813, 0), (199, .ireturn, 1, 0, 0, 0, 0), (200, .iinc 3 7, 3, 0, 0, 0, 0), (203, .goto (-71), 3, 132, 0, 0, 0), (206, .aload_n 0, 1, 0, 0, 0, 0), (207, .invokevirtual 206, 3, 194, 1, 1732, 0), (210, .aload_n 0, 1, 0, 0, 0, 0), (211, .getfield 7, 3, 11, 0, 1440, 0), (214, .sipush 1400, 3, 0, 0, 0, 0), (217, .dup2, 1, 0, 0, 0, 0), (218, .iaload, 1, 0, 0, 0, 0), (219, .iconst 1, 1, 0, 0, 0, 0), (220, .iadd, 1, 0, 0, 0, 0), (221, .iastore, 1, 0, 0, 0, 0), (222, .iconst 1, 1, 0, 0, 0, 0), (223, .ireturn, 1, 0, 0, 0, 0)]
def x_t_X12_aShip : List (Nat × x_Row) := [(0, .sipush 1452, 3, 0, 0, 0, 0), (3, .iconst 5, 1, 0, 0, 0, 0), (4, .aload_n 0, 1, 0, 0, 0, 0), (5, .getfield 7, 3, 11, 0, 1440, 0), (8, .sipush 1401, 3, 0, 0, 0, 0), (11, .iaload, 1, 0, 0, 0, 0), (12, .imul, 1, 0, 0, 0, 0), (13, .iadd, 1, 0, 0, 0, 0), (14, .istore_n 1, 1, 0, 0, 0, 0), (15, .aload_n 0, 1, 0, 0, 0, 0), (16, .getfield 7, 3, 11, 0, 1440, 0), (19, .sipush 1401, 3, 0, 0, 0, 0), (22, .iaload, 1, 0, 0, 0, 0), (23, .bipush 6, 2, 0, 0, 0, 0), (25, .if_icmp .ne 10, 3, 35, 0, 0, 0), (28, .aload_n 0, 1, 0, 0, 0, 0), (29, .bipush 6, 2, 0, 0, 0, 0), (31, .invokevirtual 212, 3, 197, 2, 1813, 0), (34, .ireturn, 1, 0, 0, 0, 0), (35, .aload_n 0, 1, 0, 0, 0, 0), (36, .bipush 6, 2, 0, 0, 0, 0), (38, .aload_n 0, 1, 0, 0, 0, 0), (39, .getfield 7, 3, 11, 0, 1440, 0), (42, .sipush 1401, 3, 0, 0, 0, 0), (45, .iaload, 1, 0, 0, 0, 0), (46, .iadd, 1, 0, 0, 0, 0), (47, .invokevirtual 232, 3, 207, 2, 1817, 0), (50, .ifCond .eq 14, 3, 64, 0, 0, 0), (53, .aload_n 0, 1, 0, 0, 0, 0), (54, .ldc 223, 2, 1, 0, 1756, 0), (56, .bipush 8, 2, 0, 0, 0, 0), (58, .invokevirtual 235, 3, 200, 3, 1833, 0), (61, .ifCond .ne 5, 3, 66, 0, 0, 0), (64, .iconst 0, 1, 0, 0, 0, 0), (65, .ireturn, 1, 0, 0, 0, 0), (66, .aload_n 0, 1, 0, 0, 0, 0), (67, .ldc 223, 2, 1, 0, 1756, 0), (69, .invokevirtual 225, 3, 202, 2, 1821, 0), (72, .ifCond .ne 9, 3, 81, 0, 0, 0), (75, .aload_n 0, 1, 0, 0, 0, 0), (76, .iconst 2, 1, 0, 0, 0, 0), (77, .invokevirtual 212, 3, 197, 2, 1813, 0), (80, .ireturn, 1, 0, 0, 0, 0), (81, .aload_n 0, 1, 0, 0, 0, 0), (82, .getfield 7, 3, 11, 0, 1440, 0), (85, .iload_n 1, 1, 0, 0, 0, 0), (86, .aload_n 0, 1, 0, 0, 0, 0), (87, .bipush 72, 2, 0, 0, 0, 0), (89, .aload_n 0, 1, 0, 0, 0, 0), (90, .getfield 7, 3, 11, 0, 1440, 0), (93, .sipush 1400, 3, 0, 0, 0, 0), (96, .iaload, 1, 0, 0, 0, 0), (97, .invokevirtual 229, 3, 204, 3, 1825, 0), (100, .iastore, 1, 0, 0, 0, 0), (101, .aload_n 0, 1, 0, 0, 0, 0), (102, .getfield 7, 3, 11, 0, 1440, 0), (105, .iload_n 1, 1, 0, 0, 0, 0), (106, .iaload, 1, 0, 0, 0, 0), (107, .iconst (-1), 1, 0, 0, 0, 0), (108, .if_icmp .ne 9, 3, 117, 0, 0, 0), (111, .aload_n 0, 1, 0, 0, 0, 0), (112, .iconst 3, 1, 0, 0, 0, 0), (113, .invokevirtual 212, 3, 197, 2, 1813, 0), (116, .ireturn, 1, 0, 0, 0, 0), (117, .aload_n 0, 1, 0, 0, 0, 0), (118, .invokevirtual 206, 3, 194, 1, 1732, 0), (121, .aload_n 0, 1, 0, 0, 0, 0), (122, .getfield 7, 3, 11, 0, 1440, 0), (125, .iload_n 1, 1, 0, 0, 0, 0), (126, .iconst 4, 1, 0, 0, 0, 0), (127, .iadd, 1, 0, 0, 0, 0), (128, .iconst 0, 1, 0, 0, 0, 0), (129, .iastore, 1, 0, 0, 0, 0), (130, .aload_n 0, 1, 0, 0, 0, 0), (131, .iload_n 1, 1, 0, 0, 0, 0), (132, .iconst 1, 1, 0, 0, 0, 0), (133, .iadd, 1, 0, 0, 0, 0), (134, .invokevirtual 243, 3, 211, 2, 1845, 0), (137, .ifCond .ne 5, 3, 142, 0, 0, 0), (140, .iconst 0, 1, 0, 0, 0, 0), (141, .ireturn, 1, 0, 0, 0, 0), (142, .aload_n 0, 1, 0, 0, 0, 0), (143, .ldc 223, 2, 1, 0, 1756, 0), (145, .invokevirtual 215, 3, 196, 2, 1757, 0), (148, .bipush 12, 2, 0, 0, 0, 0), (150, .if_icmp .ne 16, 3, 166, 0, 0, 0), (153, .aload_n 0, 1, 0, 0, 0, 0), (154, .getfield 7, 3, 11, 0, 1440, 0), (157, .iload_n 1, 1, 0, 0, 0, 0), (158, .iconst 4, 1, 0, 0, 0, 0), (159, .iadd, 1, 0, 0, 0, 0), (160, .iconst 1, 1, 0, 0, 0, 0), (161, .iastore, 1, 0, 0, 0, 0), (162, .aload_n 0, 1, 0, 0, 0, 0), (163, .invokevirtual 206, 3, 194, 1, 1732, 0), (166, .aload_n 0, 1, 0, 0, 0, 0), (167, .getfield 7, 3, 11, 0, 1440, 0), (170, .sipush 1401, 3, 0, 0, 0, 0), (173, .dup2, 1, 0, 0, 0, 0), (174, .iaload, 1, 0, 0, 0, 0), (175, .iconst 1, 1, 0, 0, 0, 0), (176, .iadd, 1, 0, 0, 0, 0), (177, .iastore, 1, 0, 0, 0, 0), (178, .iconst 1, 1, 0, 0, 0, 0), (179, .ireturn, 1, 0, 0, 0, 0)]
def x_t_X12_passes : List (Nat × x_Row) := [(0, .aload_n 0, 1, 0, 0, 0, 0), (1, .ldc 223, 2, 1, 0, 1756, 0), (3, .bipush 9, 2, 0, 0, 0, 0), (5, .invokevirtual 235, 3, 200, 3, 1833, 0), (8, .ifCond .eq 66, 3, 74, 0, 0, 0), (11, .aload_n 0, 1, 0, 0, 0, 0), (12, .iload_n 1, 1, 0, 0, 0, 0), (13, .iconst 0, 1, 0, 0, 0, 0), (14, .bipush 120, 2, 0, 0, 0, 0), (16, .invokevirtual 246, 3, 201, 4, 1849, 0), (19, .ifCond .eq 55, 3, 74, 0, 0, 0), (22, .aload_n 0, 1, 0, 0, 0, 0), (23, .ldc 223, 2, 1, 0, 1756, 0), (25, .bipush 10, 2, 0, 0, 0, 0), (27, .invokevirtual 235, 3, 200, 3, 1833, 0), (30, .ifCond .eq 44, 3, 74, 0, 0, 0), (33, .aload_n 0, 1, 0, 0, 0, 0), (34, .iload_n 1, 1, 0, 0, 0, 0), (35, .iconst 1, 1, 0, 0, 0, 0), (36, .iadd, 1, 0, 0, 0, 0), (37, .iconst 1, 1, 0, 0, 0, 0), (38, .bipush 20, 2, 0, 0, 0, 0), (40, .invokevirtual 246, 3, 201, 4, 1849, 0), (43, .ifCond .eq 31, 3, 74, 0, 0, 0), (46, .aload_n 0, 1, 0, 0, 0, 0), (47, .ldc 223, 2, 1, 0, 1756, 0), (49, .bipush 11, 2, 0, 0, 0, 0), (51, .invokevirtual 235, 3, 200, 3, 1833, 0), (54, .ifCond .eq 20, 3, 74, 0, 0, 0), (57, .aload_n 0, 1, 0, 0, 0, 0), (58, .iload_n 1, 1, 0, 0, 0, 0), (59, .iconst 2, 1, 0, 0, 0, 0), (60, .iadd, 1, 0, 0, 0, 0), (61, .iconst 0, 1, 0, 0, 0, 0), (62, .bipush 99, 2, 0, 0, 0, 0), (64, .invokevirtual 246, 3, 201, 4, 1849, 0), (67, .ifCond .eq 7, 3, 74, 0, 0, 0), (70, .iconst 1, 1, 0, 0, 0, 0), (71, .goto 4, 3, 75, 0, 0, 0), (74, .iconst 0, 1, 0, 0, 0, 0), (75, .ireturn, 1, 0, 0, 0, 0)]
def x_t_X12_aCart : List (Nat × x_Row) := [(0, .sipush 1482, 3, 0, 0, 0, 0), (3, .iconst 3, 1, 0, 0, 0, 0), (4, .aload_n 0, 1, 0, 0, 0, 0), (5, .getfield 7, 3, 11, 0, 1440, 0), (8, .sipush 1402, 3, 0, 0, 0, 0), (11, .iaload, 1, 0, 0, 0, 0), (12, .imul, 1, 0, 0, 0, 0), (13, .iadd, 1, 0, 0, 0, 0), (14, .istore_n 1, 1, 0, 0, 0, 0), (15, .aload_n 0, 1, 0, 0, 0, 0), (16, .getfield 7, 3, 11, 0, 1440, 0), (19, .sipush 1402, 3, 0, 0, 0, 0), (22, .iaload, 1, 0, 0, 0, 0), (23, .bipush 6, 2, 0, 0, 0, 0), (25, .if_icmp .ne 10, 3, 35, 0, 0, 0), (28, .aload_n 0, 1, 0, 0, 0, 0), (29, .bipush 6, 2, 0, 0, 0, 0), (31, .invokevirtual 212, 3, 197, 2, 1813, 0), (34, .ireturn, 1, 0, 0, 0, 0), (35, .aload_n 0, 1, 0, 0, 0, 0), (36, .bipush 12, 2, 0, 0, 0, 0), (38, .aload_n 0, 1, 0, 0, 0, 0), (39, .getfield 7, 3, 11, 0, 1440, 0), (42, .sipush 1402, 3, 0, 0, 0, 0), (45, .iaload, 1, 0, 0, 0, 0), (46, .iadd, 1, 0, 0, 0, 0), (47, .invokevirtual 232, 3, 207, 2, 1817, 0), (50, .ifCond .eq 11, 3, 61, 0, 0, 0), (53, .aload_n 0, 1, 0, 0, 0, 0), (54, .iload_n 1, 1, 0, 0, 0, 0), (55, .invokevirtual 243, 3, 211, 2, 1845, 0), (58, .ifCond .ne 5, 3, 63, 0, 0, 0), (61, .iconst 0, 1, 0, 0, 0, 0), (62, .ireturn, 1, 0, 0, 0, 0), (63, .aload_n 0, 1, 0, 0, 0, 0), (64, .getfield 7, 3, 11, 0, 1440, 0), (67, .sipush 1402, 3, 0, 0, 0, 0), (70, .dup2, 1, 0, 0, 0, 0), (71, .iaload, 1, 0, 0, 0, 0), (72, .iconst 1, 1, 0, 0, 0, 0), (73, .iadd, 1, 0, 0, 0, 0), (74, .iastore, 1, 0, 0, 0, 0), (75, .iconst 1, 1, 0, 0, 0, 0), (76, .ireturn, 1, 0, 0, 0, 0)]
def x_t_X12_once : List (Nat × x_Row) := [(0, .aload_n 0, 1, 0, 0, 0, 0), (1, .getfield 250, 3, 11, 20, 1460, 0), (4, .iload_n 1, 1, 0, 0, 0, 0), (5, .ishr, 1, 0, 0, 0, 0), (6, .iconst 1, 1, 0, 0, 0, 0), (7, .iand, 1, 0, 0, 0, 0), (8, .iconst 1, 1, 0, 0, 0, 0), (9, .if_icmp .ne 9, 3, 18, 0, 0, 0), (12, .aload_n 0, 1, 0, 0, 0, 0), (13, .iconst 5, 1, 0, 0, 0, 0), (14, .invokevirtual 212, 3, 197, 2, 1813, 0), (17, .ireturn, 1, 0, 0, 0, 0), (18, .aload_n 0, 1, 0, 0, 0, 0), (19, .dup, 1, 0, 0, 0, 0), (20, .getfield 250, 3, 11, 20, 1460, 0), (23, .iconst 1, 1, 0, 0, 0, 0), (24, .iload_n 1, 1, 0, 0, 0, 0), (25, .ishl, 1, 0, 0, 0, 0), (26, .ior, 1, 0, 0, 0, 0), (27, .putfield 250, 3, 11, 20, 1460, 0), (30, .aload_n 0, 1, 0, 0, 0, 0), (31, .invokevirtual 206, 3, 194, 1, 1732, 0), (34, .iload_n 1, 1, 0, 0, 0, 0), (35, .iconst 1, 1, 0, 0, 0, 0), (36, .if_icmp .ne 14, 3, 50, 0, 0, 0), (39, .aload_n 0, 1, 0, 0, 0, 0), (40, .sipush 1404, 3, 0, 0, 0, 0), (43, .iconst 1, 1, 0, 0, 0, 0), (44, .bipush 20, 2, 0, 0, 0, 0), (46, .invokevirtual 246, 3, 201, 4, 1849, 0), (49, .ireturn, 1, 0, 0, 0, 0), (50, .iload_n 1, 1, 0, 0, 0, 0), (51, .iconst 3, 1, 0, 0, 0, 0), (52, .if_icmp .ne 14, 3, 66, 0, 0, 0), (55, .aload_n 0, 1, 0, 0, 0, 0), (56, .sipush 1407, 3, 0, 0, 0, 0), (59, .iconst 0, 1, 0, 0, 0, 0), (60, .bipush 9, 2, 0, 0, 0, 0), (62, .invokevirtual 246, 3, 201, 4, 1849, 0), (65, .ireturn, 1, 0, 0, 0, 0), (66, .aload_n 0, 1, 0, 0, 0, 0), (67, .sipush 1405, 3, 0, 0, 0, 0), (70, .iconst 0, 1, 0, 0, 0, 0), (71, .bipush 20, 2, 0, 0, 0, 0), (73, .invokevirtual 246, 3, 201, 4, 1849, 0), (76, .ifCond .eq 32, 3, 108, 0, 0, 0), (79, .aload_n 0, 1, 0, 0, 0, 0), (80, .ldc 223, 2, 1, 0, 1756, 0), (82, .bipush 7, 2, 0, 0, 0, 0), (84, .invokevirtual 235, 3, 200, 3, 1833, 0), (87, .ifCond .eq 21, 3, 108, 0, 0, 0), (90, .aload_n 0, 1, 0, 0, 0, 0), (91, .sipush 1406, 3, 0, 0, 0, 0), (94, .iconst 0, 1, 0, 0, 0, 0), (95, .sipush 200, 3, 0, 0, 0, 0), (98, .invokevirtual 246, 3, 201, 4, 1849, 0), (101, .ifCond .eq 7, 3, 108, 0, 0, 0), (104, .iconst 1, 1, 0, 0, 0, 0), (105, .goto 4, 3, 109, 0, 0, 0), (108, .iconst 0, 1, 0, 0, 0, 0), (109, .ireturn, 1, 0, 0, 0, 0)]
def x_t_X12_riverPart : List (Nat × x_Row) := [(0, .aload_n 0, 1, 0, 0, 0, 0), (1, .ldc 223, 2, 1, 0, 1756, 0), (3, .invokevirtual 215, 3, 196, 2, 1757, 0), (6, .istore_n 2, 1, 0, 0, 0, 0), (7, .iload_n 2, 1, 0, 0, 0, 0), (8, .tableswitch 73 0 5 #[40, 64, 64, 64, 48, 56], 40, 0, 0, 0, 0), (48, .aload_n 0, 1, 0, 0, 0, 0), (49, .invokevirtual 253, 3, 209, 1, 1809, 0), (52, .istore_n 1, 1, 0, 0, 0, 0), (53, .goto 34, 3, 87, 0, 0, 0), (56, .aload_n 0, 1, 0, 0, 0, 0), (57, .invokevirtual 256, 3, 210, 1, 1841, 0), (60, .istore_n 1, 1, 0, 0, 0, 0), (61, .goto 26, 3, 87, 0, 0, 0), (64, .aload_n 0, 1, 0, 0, 0, 0), (65, .invokevirtual 259, 3, 212, 1, 1853, 0), (68, .istore_n 1, 1, 0, 0, 0, 0), (69, .goto 18, 3, 87, 0, 0, 0), (72, .aload_n 0, 1, 0, 0, 0, 0), (73, .iload_n 2, 1, 0, 0, 0, 0), (74, .invokevirtual 262, 3, 213, 2, 1857, 0), (77, .istore_n 1, 1, 0, 0, 0, 0), (78, .goto 9, 3, 87, 0, 0, 0), (81, .aload_n 0, 1, 0, 0, 0, 0), (82, .iconst 2, 1, 0, 0, 0, 0), (83, .invokevirtual 212, 3, 197, 2, 1813, 0), (86, .ireturn, 1, 0, 0, 0, 0), (87, .iload_n 1, 1, 0, 0, 0, 0), (88, .ifCond .eq 16, 3, 104, 0, 0, 0), (91, .aload_n 0, 1, 0, 0, 0, 0), (92, .bipush 59, 2, 0, 0, 0, 0), (94, .invokevirtual 265, 3, 199, 2, 1861, 0), (97, .ifCond .eq 7, 3, 104, 0, 0, 0), (100, .iconst 1, 1, 0, 0, 0, 0), (101, .goto 4, 3, 105, 0, 0, 0), (104, .iconst 0, 1, 0, 0, 0, 0), (105, .ireturn, 1, 0, 0, 0, 0)]
def x_t_X12_river : List (Nat × x_Row) := [(0, .aload_n 0, 1, 0, 0, 0, 0), (1, .iload_n 1, 1, 0, 0, 0, 0), (2, .sipush 900, 3, 0, 0, 0, 0), (5, .invokevirtual 268, 3, 198, 3, 1728, 0), (8, .ifCond .ne 9, 3, 17, 0, 0, 0), (11, .aload_n 0, 1, 0, 0, 0, 0), (12, .iconst 1, 1, 0, 0, 0, 0), (13, .invokevirtual 129, 3, 176, 2, 1748, 0), (16, .ireturn, 1, 0, 0, 0, 0), (17, .iconst 0, 1, 0, 0, 0, 0), (18, .istore_n 2, 1, 0, 0, 0, 0), (19, .iload_n 2, 1, 0, 0, 0, 0), (20, .sipush 350, 3, 0, 0, 0, 0), (23, .if_icmp .ge 20, 3, 43, 0, 0, 0), (26, .aload_n 0, 1, 0, 0, 0, 0), (27, .getfield 7, 3, 11, 0, 1440, 0), (30, .sipush 1400, 3, 0, 0, 0, 0), (33, .iload_n 2, 1, 0, 0, 0, 0), (34, .iadd, 1, 0, 0, 0, 0), (35, .iconst 0, 1, 0, 0, 0, 0), (36, .iastore, 1, 0, 0, 0, 0), (37, .iinc 2 1, 3, 0, 0, 0, 0), (40, .goto (-21), 3, 19, 0, 0, 0), (43, .aload_n 0, 1, 0, 0, 0, 0), (44, .getfield 7, 3, 11, 0, 1440, 0), (47, .sipush 1404, 3, 0, 0, 0, 0), (50, .iconst 5, 1, 0, 0, 0, 0), (51, .iastore, 1, 0, 0, 0, 0), (52, .aload_n 0, 1, 0, 0, 0, 0), (53, .iconst 0, 1, 0, 0, 0, 0), (54, .putfield 250, 3, 11, 20, 1460, 0), (57, .iconst 1, 1, 0, 0, 0, 0), (58, .istore_n 2, 1, 0, 0, 0, 0), (59, .iload_n 2, 1, 0, 0, 0, 0), (60, .ifCond .eq 18, 3, 78, 0, 0, 0), (63, .aload_n 0, 1, 0, 0, 0, 0), (64, .getfield 175, 3, 11, 12, 1452, 0), (67, .ifCond .eq 11, 3, 78, 0, 0, 0), (70, .aload_n 0, 1, 0, 0, 0, 0), (71, .invokevirtual 272, 3, 214, 1, 1752, 0), (74, .istore_n 2, 1, 0, 0, 0, 0), (75, .goto (-16), 3, 59, 0, 0, 0), (78, .aload_n 0, 1, 0, 0, 0, 0), (79, .getfield 200, 3, 11, 18, 1458, 0), (82, .ifCond .ne 63, 3, 145, 0, 0, 0), (85, .iconst 0, 1, 0, 0, 0, 0), (86, .istore_n 3, 1, 0, 0, 0, 0), (87, .iload_n 3, 1, 0, 0, 0, 0), (88, .sipush 350, 3, 0, 0, 0, 0), (91, .if_icmp .ge 25, 3, 116, 0, 0, 0), (94, .aload_n 0, 1, 0, 0, 0, 0), (95, .getfield 7, 3, 11, 0, 1440, 0), (98, .iload_n 3, 1, 0, 0, 0, 0), (99, .aload_n 0, 1, 0, 0, 0, 0), (100, .getfield 7, 3, 11, 0, 1440, 0), (103, .sipush 1400, 3, 0, 0, 0, 0), (106, .iload_n 3, 1, 0, 0, 0, 0), (107, .iadd, 1, 0, 0, 0, 0), (108, .iaload, 1, 0, 0, 0, 0), (109, .iastore, 1, 0, 0, 0, 0), (110, .iinc 3 1, 3, 0, 0, 0, 0), (113, .goto (-26), 3, 87, 0, 0, 0), (116, .iconst 0, 1, 0, 0, 0, 0), (117, .istore_n 3, 1, 0, 0, 0, 0), (118, .iload_n 3, 1, 0, 0, 0, 0), (119, .bipush 18, 2, 0, 0, 0, 0), (121, .if_icmp .ge 24, 3, 145, 0, 0, 0), (124, .aload_n 0, 1, 0, 0, 0, 0), (125, .getfield 13, 3, 11, 1, 1441, 0), (128, .iload_n 3, 1, 0, 0, 0, 0), (129, .aload_n 0, 1, 0, 0, 0, 0), (130, .getfield 13, 3, 11, 1, 1441, 0), (133, .bipush 72, 2, 0, 0, 0, 0), (135, .iload_n 3, 1, 0, 0, 0, 0), (136, .iadd, 1, 0, 0, 0, 0), (137, .laload, 1, 0, 0, 0, 0), (138, .lastore, 1, 0, 0, 0, 0), (139, .iinc 3 1, 3, 0, 0, 0, 0), (142, .goto (-24), 3, 118, 0, 0, 0), (145, .aload_n 0, 1, 0, 0, 0, 0), (146, .aload_n 0, 1, 0, 0, 0, 0), (147, .getfield 7, 3, 11, 0, 1440, 0), (150, .iconst 1, 1, 0, 0, 0, 0), (151, .iaload, 1, 0, 0, 0, 0), (152, .invokevirtual 275, 3, 206, 2, 1869, 0), (155, .ireturn, 1, 0, 0, 0, 0)]
def x_t_X12_asksAlso : List (Nat × x_Row) := [(0, .aload_n 0, 1, 0, 0, 0, 0), (1, .getfield 7, 3, 11, 0, 1440, 0), (4, .sipush 1540, 3, 0, 0, 0, 0), (7, .aload_n 0, 1, 0, 0, 0, 0), (8, .getfield 278, 3, 11, 25, 1465, 0), (11, .iadd, 1, 0, 0, 0, 0), (12, .iload_n 1, 1, 0, 0, 0, 0), (13, .iastore, 1, 0, 0, 0, 0), (14, .aload_n 0, 1, 0, 0, 0, 0), (15, .dup, 1, 0, 0, 0, 0), (16, .getfield 278, 3, 11, 25, 1465, 0), (19, .iconst 1, 1, 0, 0, 0, 0), (20, .iadd, 1, 0, 0, 0, 0), (21, .putfield 278, 3, 11, 25, 1465, 0), (24, .return_, 1, 0, 0, 0, 0)]
def x_t_X12_isDoing : List (Nat × x_Row) := [(0, .aload_n 0, 1, 0, 0, 0, 0), (1, .getfield 281, 3, 11, 22, 1462, 0), (4, .ifCond .le 22, 3, 26, 0, 0, 0), (7, .aload_n 0, 1, 0, 0, 0, 0), (8, .getfield 44, 3, 11, 21, 1461, 0), (11, .aload_n 0, 1, 0, 0, 0, 0), (12, .getfield 281, 3, 11, 22, 1462, 0), (15, .iconst 1, 1, 0, 0, 0, 0), (16, .isub, 1, 0, 0, 0, 0), (17, .iaload, 1, 0, 0, 0, 0), (18, .iload_n 1, 1, 0, 0, 0, 0), (19, .if_icmp .ne 7, 3, 26, 0, 0, 0), (22, .iconst 1, 1, 0, 0, 0, 0), (23, .goto 4, 3, 27, 0, 0, 0), (26, .iconst 0, 1, 0, 0, 0, 0), (27, .ireturn, 1, 0, 0, 0, 0)]
def x_t_X12_does : List (Nat × x_Row) := [(0, .aload_n 0, 1, 0, 0, 0, 0), (1, .getfield 44, 3, 11, 21, 1461, 0), (4, .aload_n 0, 1, 0, 0, 0, 0), (5, .getfield 281, 3, 11, 22, 1462, 0), (8, .iload_n 1, 1, 0, 0, 0, 0), (9, .iastore, 1, 0, 0, 0, 0), (10, .aload_n 0, 1, 0, 0, 0, 0), (11, .dup, 1, 0, 0, 0, 0), (12, .getfield 281, 3, 11, 22, 1462, 0), (15, .iconst 1, 1, 0, 0, 0, 0), (16, .iadd, 1, 0, 0, 0, 0), (17, .putfield 281, 3, 11, 22, 1462, 0), (20, .return_, 1, 0, 0, 0, 0)]
def x_t_X12_joins : List (Nat × x_Row) := [(0, .aload_n 0, 1, 0, 0, 0, 0), (1, .dup, 1, 0, 0, 0, 0), (2, .getfield 281, 3, 11, 22, 1462, 0), (5, .iconst 1, 1, 0, 0, 0, 0), (6, .isub, 1, 0, 0, 0, 0), (7, .putfield 281, 3, 11, 22, 1462, 0), (10, .aload_n 0, 1, 0, 0, 0, 0), (11, .aload_n 0, 1, 0, 0, 0, 0), (12, .getfield 44, 3, 11, 21, 1461, 0), (15, .aload_n 0, 1, 0, 0, 0, 0), (16, .getfield 281, 3, 11, 22, 1462, 0), (19, .iaload, 1, 0, 0, 0, 0), (20, .invokevirtual 284, 3, 216, 2, 1901, 0), (23, .return_, 1, 0, 0, 0, 0)]
def x_t_X12_turnsRound : List (Nat × x_Row) := [(0, .aload_n 0, 1, 0, 0, 0, 0), (1, .bipush 20, 2, 0, 0, 0, 0), (3, .invokevirtual 287, 3, 217, 2, 1909, 0), (6, .ifCond .eq 20, 3, 26, 0, 0, 0), (9, .aload_n 0, 1, 0, 0, 0, 0), (10, .invokevirtual 290, 3, 219, 1, 1913, 0), (13, .aload_n 0, 1, 0, 0, 0, 0), (14, .dup, 1, 0, 0, 0, 0), (15, .getfield 293, 3, 11, 23, 1463, 0), (18, .iconst 1, 1, 0, 0, 0, 0), (19, .isub, 1, 0, 0, 0, 0), (20, .putfield 293, 3, 11, 23, 1463, 0), (23, .goto (-23), 3, 0, 0, 0, 0), (26, .return_, 1, 0, 0, 0, 0)]
def x_t_X12_isWithin : List (Nat × x_Row) := [(0, .iconst 0, 1, 0, 0, 0, 0), (1, .istore_n 1, 1, 0, 0, 0, 0), (2, .iload_n 1, 1, 0, 0, 0, 0), (3, .aload_n 0, 1, 0, 0, 0, 0), (4, .getfield 281, 3, 11, 22, 1462, 0), (7, .if_icmp .ge 22, 3, 29, 0, 0, 0), (10, .aload_n 0, 1, 0, 0, 0, 0), (11, .getfield 44, 3, 11, 21, 1461, 0), (14, .iload_n 1, 1, 0, 0, 0, 0), (15, .iaload, 1, 0, 0, 0, 0), (16, .bipush 40, 2, 0, 0, 0, 0), (18, .if_icmp .ne 5, 3, 23, 0, 0, 0), (21, .iconst 1, 1, 0, 0, 0, 0), (22, .ireturn, 1, 0, 0, 0, 0), (23, .iinc 1 1, 3, 0, 0, 0, 0), (26, .goto (-24), 3, 2, 0, 0, 0), (29, .iconst 0, 1, 0, 0, 0, 0), (30, .ireturn, 1, 0, 0, 0, 0)]
def x_t_X12_aCase : List (Nat × x_Row) := [(0, .aload_n 0, 1, 0, 0, 0, 0), (1, .getfield 296, 3, 11, 24, 1464, 0), (4, .bipush 24, 2, 0, 0, 0, 0), (6, .if_icmp .ne 10, 3, 16, 0, 0, 0), (9, .aload_n 0, 1, 0, 0, 0, 0), (10, .bipush 6, 2, 0, 0, 0, 0), (12, .invokevirtual 212, 3, 197, 2, 1813, 0), (15, .ireturn, 1, 0, 0, 0, 0), (16, .aload_n 0, 1, 0, 0, 0, 0), (17, .getfield 293, 3, 11, 23, 1463, 0), (20, .bipush 6, 2, 0, 0, 0, 0), (22, .if_icmp .ne 10, 3, 32, 0, 0, 0), (25, .aload_n 0, 1, 0, 0, 0, 0), (26, .bipush 7, 2, 0, 0, 0, 0), (28, .invokevirtual 212, 3, 197, 2, 1813, 0), (31, .ireturn, 1, 0, 0, 0, 0), (32, .aload_n 0, 1, 0, 0, 0, 0), (33, .dup, 1, 0, 0, 0, 0), (34, .getfield 296, 3, 11, 24, 1464, 0), (37, .iconst 1, 1, 0, 0, 0, 0), (38, .iadd, 1, 0, 0, 0, 0), (39, .putfield 296, 3, 11, 24, 1464, 0), (42, .aload_n 0, 1, 0, 0, 0, 0), (43, .invokevirtual 206, 3, 194, 1, 1732, 0), (46, .iload_n 1, 1, 0, 0, 0, 0), (47, .bipush 15, 2, 0, 0, 0, 0), (49, .if_icmp .eq 9, 3, 58, 0, 0, 0), (52, .iload_n 1, 1, 0, 0, 0, 0), (53, .bipush 16, 2, 0, 0, 0, 0), (55, .if_icmp .ne 10, 3, 65, 0, 0, 0), (58, .aload_n 0, 1, 0, 0, 0, 0), (59, .iload_n 1, 1, 0, 0, 0, 0), (60, .invokevirtual 284, 3, 216, 2, 1901, 0), (63, .iconst 1, 1, 0, 0, 0, 0), (64, .ireturn, 1, 0, 0, 0, 0), (65, .aload_n 0, 1, 0, 0, 0, 0), (66, .bipush 60, 2, 0, 0, 0, 0), (68, .invokevirtual 209, 3, 195, 2, 1865, 0), (71, .ifCond .ne 27, 3, 98, 0, 0, 0), (74, .aload_n 0, 1, 0, 0, 0, 0), (75, .bipush 62, 2, 0, 0, 0, 0), (77, .invokevirtual 209, 3, 195, 2, 1865, 0), (80, .ifCond .ne 18, 3, 98, 0, 0, 0), (83, .aload_n 0, 1, 0, 0, 0, 0), (84, .bipush 61, 2, 0, 0, 0, 0), (86, .invokevirtual 209, 3, 195, 2, 1865, 0), (89, .ifCond .ne 9, 3, 98, 0, 0, 0), (92, .aload_n 0, 1, 0, 0, 0, 0), (93, .iconst 2, 1, 0, 0, 0, 0), (94, .invokevirtual 212, 3, 197, 2, 1813, 0), (97, .ireturn, 1, 0, 0, 0, 0), (98, .aload_n 0, 1, 0, 0, 0, 0), (99, .bipush 60, 2, 0, 0, 0, 0), (101, .invokevirtual 209, 3, 195, 2, 1865, 0), (104, .ifCond .eq 7, 3, 111, 0, 0, 0), (107, .iconst 0, 1, 0, 0, 0, 0), (108, .goto 17, 3, 125, 0, 0, 0), (111, .aload_n 0, 1, 0, 0, 0, 0), (112, .bipush 62, 2, 0, 0, 0, 0), (114, .invokevirtual 209, 3, 195, 2, 1865, 0), (117, .ifCond .eq 7, 3, 124, 0, 0, 0), (120, .iconst 1, 1, 0, 0, 0, 0), (121, .goto 4, 3, 125, 0, 0, 0), (124, .iconst 2, 1, 0, 0, 0, 0), (125, .istore_n 2, 1, 0, 0, 0, 0), (126, .aload_n 0, 1, 0, 0, 0, 0), (127, .invokevirtual 206, 3, 194, 1, 1732, 0), (130, .aload_n 0, 1, 0, 0, 0, 0), (131, .getfield 175, 3, 11, 12, 1452, 0), (134, .iconst 3, 1, 0, 0, 0, 0), (135, .if_icmp .eq 9, 3, 144, 0, 0, 0), (138, .aload_n 0, 1, 0, 0, 0, 0), (139, .iconst 2, 1, 0, 0, 0, 0), (140, .invokevirtual 212, 3, 197, 2, 1813, 0), (143, .ireturn, 1, 0, 0, 0, 0), (144, .aload_n 0, 1, 0, 0, 0, 0), (145, .getfield 172, 3, 11, 15, 1455, 0), (148, .sipush 300, 3, 0, 0, 0, 0), (151, .if_icmp .le 9, 3, 160, 0, 0, 0), (154, .aload_n 0, 1, 0, 0, 0, 0), (155, .iconst 4, 1, 0, 0, 0, 0), (156, .invokevirtual 212, 3, 197, 2, 1813, 0), (159, .ireturn, 1, 0, 0, 0, 0), (160, .aload_n 0, 1, 0, 0, 0, 0), (161, .ldc 184, 2, 0, 0, 1746, 100000), (163, .iload_n 1, 1, 0, 0, 0, 0), (164, .imul, 1, 0, 0, 0, 0), (165, .sipush 1000, 3, 0, 0, 0, 0), (168, .iload_n 2, 1, 0, 0, 0, 0), (169, .imul, 1, 0, 0, 0, 0), (170, .iadd, 1, 0, 0, 0, 0), (171, .aload_n 0, 1, 0, 0, 0, 0), (172, .getfield 172, 3, 11, 15, 1455, 0), (175, .iadd, 1, 0, 0, 0, 0), (176, .invokevirtual 284, 3, 216, 2, 1901, 0), (179, .aload_n 0, 1, 0, 0, 0, 0), (180, .invokevirtual 206, 3, 194, 1, 1732, 0), (183, .iconst 1, 1, 0, 0, 0, 0), (184, .ireturn, 1, 0, 0, 0, 0)]
def x_t_X12_aOne : List (Nat × x_Row) := [(0, .aload_n 0, 1, 0, 0, 0, 0), (1, .ldc 223, 2, 1, 0, 1756, 0), (3, .invokevirtual 215, 3, 196, 2, 1757, 0), (6, .bipush 20, 2, 0, 0, 0, 0), (8, .if_icmp .eq 12, 3, 20, 0, 0, 0), (11, .aload_n 0, 1, 0, 0, 0, 0), (12, .bipush 40, 2, 0, 0, 0, 0), (14, .invokevirtual 209, 3, 195, 2, 1865, 0), (17, .ifCond .eq 56, 3, 73, 0, 0, 0), (20, .aload_n 0, 1, 0, 0, 0, 0), (21, .getfield 293, 3, 11, 23, 1463, 0), (24, .bipush 6, 2, 0, 0, 0, 0), (26, .if_icmp .ne 10, 3, 36, 0, 0, 0), (29, .aload_n 0, 1, 0, 0, 0, 0), (30, .bipush 7, 2, 0, 0, 0, 0), (32, .invokevirtual 212, 3, 197, 2, 1813, 0), (35, .ireturn, 1, 0, 0, 0, 0), (36, .aload_n 0, 1, 0, 0, 0, 0), (37, .dup, 1, 0, 0, 0, 0), (38, .getfield 293, 3, 11, 23, 1463, 0), (41, .iconst 1, 1, 0, 0, 0, 0), (42, .iadd, 1, 0, 0, 0, 0), (43, .putfield 293, 3, 11, 23, 1463, 0), (46, .aload_n 0, 1, 0, 0, 0, 0), (47, .aload_n 0, 1, 0, 0, 0, 0), (48, .bipush 40, 2, 0, 0, 0, 0), (50, .invokevirtual 209, 3, 195, 2, 1865, 0), (53, .ifCond .eq 8, 3, 61, 0, 0, 0), (56, .bipush 40, 2, 0, 0, 0, 0), (58, .goto 5, 3, 63, 0, 0, 0), (61, .bipush 20, 2, 0, 0, 0, 0), (63, .invokevirtual 299, 3, 218, 2, 1893, 0), (66, .aload_n 0, 1, 0, 0, 0, 0), (67, .invokevirtual 206, 3, 194, 1, 1732, 0), (70, .goto (-70), 3, 0, 0, 0, 0), (73, .aload_n 0, 1, 0, 0, 0, 0), (74, .ldc 223, 2, 1, 0, 1756, 0), (76, .invokevirtual 215, 3, 196, 2, 1757, 0), (79, .istore_n 1, 1, 0, 0, 0, 0), (80, .iload_n 1, 1, 0, 0, 0, 0), (81, .bipush 15, 2, 0, 0, 0, 0), (83, .if_icmp .eq 27, 3, 110, 0, 0, 0), (86, .iload_n 1, 1, 0, 0, 0, 0), (87, .bipush 16, 2, 0, 0, 0, 0), (89, .if_icmp .eq 21, 3, 110, 0, 0, 0), (92, .iload_n 1, 1, 0, 0, 0, 0), (93, .bipush 22, 2, 0, 0, 0, 0), (95, .if_icmp .lt 9, 3, 104, 0, 0, 0), (98, .iload_n 1, 1, 0, 0, 0, 0), (99, .bipush 26, 2, 0, 0, 0, 0), (101, .if_icmp .le 9, 3, 110, 0, 0, 0), (104, .aload_n 0, 1, 0, 0, 0, 0), (105, .iconst 2, 1, 0, 0, 0, 0), (106, .invokevirtual 212, 3, 197, 2, 1813, 0), (109, .ireturn, 1, 0, 0, 0, 0), (110, .aload_n 0, 1, 0, 0, 0, 0), (111, .iload_n 1, 1, 0, 0, 0, 0), (112, .invokevirtual 302, 3, 222, 2, 1897, 0), (115, .ifCond .ne 5, 3, 120, 0, 0, 0), (118, .iconst 0, 1, 0, 0, 0, 0), (119, .ireturn, 1, 0, 0, 0, 0), (120, .aload_n 0, 1, 0, 0, 0, 0), (121, .invokevirtual 305, 3, 220, 1, 1905, 0), (124, .aload_n 0, 1, 0, 0, 0, 0), (125, .bipush 41, 2, 0, 0, 0, 0), (127, .invokevirtual 209, 3, 195, 2, 1865, 0), (130, .ifCond .eq 57, 3, 187, 0, 0, 0), (133, .aload_n 0, 1, 0, 0, 0, 0), (134, .invokevirtual 308, 3, 221, 1, 1917, 0), (137, .ifCond .eq 50, 3, 187, 0, 0, 0), (140, .aload_n 0, 1, 0, 0, 0, 0), (141, .bipush 40, 2, 0, 0, 0, 0), (143, .invokevirtual 287, 3, 217, 2, 1909, 0), (146, .ifCond .ne 10, 3, 156, 0, 0, 0), (149, .aload_n 0, 1, 0, 0, 0, 0), (150, .invokevirtual 290, 3, 219, 1, 1913, 0), (153, .goto (-13), 3, 140, 0, 0, 0), (156, .aload_n 0, 1, 0, 0, 0, 0), (157, .dup, 1, 0, 0, 0, 0), (158, .getfield 281, 3, 11, 22, 1462, 0), (161, .iconst 1, 1, 0, 0, 0, 0), (162, .isub, 1, 0, 0, 0, 0), (163, .putfield 281, 3, 11, 22, 1462, 0), (166, .aload_n 0, 1, 0, 0, 0, 0), (167, .dup, 1, 0, 0, 0, 0), (168, .getfield 293, 3, 11, 23, 1463, 0), (171, .iconst 1, 1, 0, 0, 0, 0), (172, .isub, 1, 0, 0, 0, 0), (173, .putfield 293, 3, 11, 23, 1463, 0), (176, .aload_n 0, 1, 0, 0, 0, 0), (177, .invokevirtual 206, 3, 194, 1, 1732, 0), (180, .aload_n 0, 1, 0, 0, 0, 0), (181, .invokevirtual 305, 3, 220, 1, 1905, 0), (184, .goto (-60), 3, 124, 0, 0, 0), (187, .iconst 1, 1, 0, 0, 0, 0), (188, .ireturn, 1, 0, 0, 0, 0)]
def x_t_X12_conditions : List (Nat × x_Row) := [(0, .aload_n 0, 1, 0, 0, 0, 0), (1, .iconst 0, 1, 0, 0, 0, 0), (2, .putfield 281, 3, 11, 22, 1462, 0), (5, .aload_n 0, 1, 0, 0, 0, 0), (6, .iconst 0, 1, 0, 0, 0, 0), (7, .putfield 293, 3, 11, 23, 1463, 0), (10, .aload_n 0, 1, 0, 0, 0, 0), (11, .invokevirtual 311, 3, 223, 1, 1889, 0), (14, .ifCond .ne 5, 3, 19, 0, 0, 0), (17, .iconst 0, 1, 0, 0, 0, 0), (18, .ireturn, 1, 0, 0, 0, 0), (19, .aload_n 0, 1, 0, 0, 0, 0), (20, .ldc 223, 2, 1, 0, 1756, 0), (22, .invokevirtual 215, 3, 196, 2, 1757, 0), (25, .istore_n 1, 1, 0, 0, 0, 0), (26, .iload_n 1, 1, 0, 0, 0, 0), (27, .bipush 18, 2, 0, 0, 0, 0), (29, .if_icmp .eq 9, 3, 38, 0, 0, 0), (32, .iload_n 1, 1, 0, 0, 0, 0), (33, .bipush 19, 2, 0, 0, 0, 0), (35, .if_icmp .ne 62, 3, 97, 0, 0, 0), (38, .aload_n 0, 1, 0, 0, 0, 0), (39, .bipush 19, 2, 0, 0, 0, 0), (41, .invokevirtual 287, 3, 217, 2, 1909, 0), (44, .ifCond .ne 18, 3, 62, 0, 0, 0), (47, .iload_n 1, 1, 0, 0, 0, 0), (48, .bipush 18, 2, 0, 0, 0, 0), (50, .if_icmp .ne 19, 3, 69, 0, 0, 0), (53, .aload_n 0, 1, 0, 0, 0, 0), (54, .bipush 18, 2, 0, 0, 0, 0), (56, .invokevirtual 287, 3, 217, 2, 1909, 0), (59, .ifCond .eq 10, 3, 69, 0, 0, 0), (62, .aload_n 0, 1, 0, 0, 0, 0), (63, .invokevirtual 290, 3, 219, 1, 1913, 0), (66, .goto (-28), 3, 38, 0, 0, 0), (69, .aload_n 0, 1, 0, 0, 0, 0), (70, .iload_n 1, 1, 0, 0, 0, 0), (71, .invokevirtual 299, 3, 218, 2, 1893, 0), (74, .aload_n 0, 1, 0, 0, 0, 0), (75, .invokevirtual 206, 3, 194, 1, 1732, 0), (78, .aload_n 0, 1, 0, 0, 0, 0), (79, .invokevirtual 311, 3, 223, 1, 1889, 0), (82, .ifCond .ne 5, 3, 87, 0, 0, 0), (85, .iconst 0, 1, 0, 0, 0, 0), (86, .ireturn, 1, 0, 0, 0, 0), (87, .aload_n 0, 1, 0, 0, 0, 0), (88, .ldc 223, 2, 1, 0, 1756, 0), (90, .invokevirtual 215, 3, 196, 2, 1757, 0), (93, .istore_n 1, 1, 0, 0, 0, 0), (94, .goto (-68), 3, 26, 0, 0, 0), (97, .aload_n 0, 1, 0, 0, 0, 0), (98, .invokevirtual 308, 3, 221, 1, 1917, 0), (101, .ifCond .eq 9, 3, 110, 0, 0, 0), (104, .aload_n 0, 1, 0, 0, 0, 0), (105, .iconst 2, 1, 0, 0, 0, 0), (106, .invokevirtual 212, 3, 197, 2, 1813, 0), (109, .ireturn, 1, 0, 0, 0, 0), (110, .aload_n 0, 1, 0, 0, 0, 0), (111, .getfield 281, 3, 11, 22, 1462, 0), (114, .ifCond .le 10, 3, 124, 0, 0, 0), (117, .aload_n 0, 1, 0, 0, 0, 0), (118, .invokevirtual 290, 3, 219, 1, 1913, 0), (121, .goto (-11), 3, 110, 0, 0, 0), (124, .iconst 1, 1, 0, 0, 0, 0), (125, .ireturn, 1, 0, 0, 0, 0)]
def x_t_X12_aRule : List (Nat × x_Row) := [(0, .sipush 1500, 3, 0, 0, 0, 0), (3, .iconst 3, 1, 0, 0, 0, 0), (4, .aload_n 0, 1, 0, 0, 0, 0), (5, .getfield 7, 3, 11, 0, 1440, 0), (8, .sipush 1403, 3, 0, 0, 0, 0), (11, .iaload, 1, 0, 0, 0, 0), (12, .imul, 1, 0, 0, 0, 0), (13, .iadd, 1, 0, 0, 0, 0), (14, .istore_n 1, 1, 0, 0, 0, 0), (15, .aload_n 0, 1, 0, 0, 0, 0), (16, .ldc 223, 2, 1, 0, 1756, 0), (18, .invokevirtual 215, 3, 196, 2, 1757, 0), (21, .bipush 13, 2, 0, 0, 0, 0), (23, .if_icmp .eq 9, 3, 32, 0, 0, 0), (26, .aload_n 0, 1, 0, 0, 0, 0), (27, .iconst 2, 1, 0, 0, 0, 0), (28, .invokevirtual 212, 3, 197, 2, 1813, 0), (31, .ireturn, 1, 0, 0, 0, 0), (32, .aload_n 0, 1, 0, 0, 0, 0), (33, .getfield 7, 3, 11, 0, 1440, 0), (36, .sipush 1403, 3, 0, 0, 0, 0), (39, .iaload, 1, 0, 0, 0, 0), (40, .bipush 12, 2, 0, 0, 0, 0), (42, .if_icmp .ne 10, 3, 52, 0, 0, 0), (45, .aload_n 0, 1, 0, 0, 0, 0), (46, .bipush 6, 2, 0, 0, 0, 0), (48, .invokevirtual 212, 3, 197, 2, 1813, 0), (51, .ireturn, 1, 0, 0, 0, 0), (52, .aload_n 0, 1, 0, 0, 0, 0), (53, .invokevirtual 206, 3, 194, 1, 1732, 0), (56, .aload_n 0, 1, 0, 0, 0, 0), (57, .getfield 7, 3, 11, 0, 1440, 0), (60, .iload_n 1, 1, 0, 0, 0, 0), (61, .aload_n 0, 1, 0, 0, 0, 0), (62, .getfield 278, 3, 11, 25, 1465, 0), (65, .iastore, 1, 0, 0, 0, 0), (66, .aload_n 0, 1, 0, 0, 0, 0), (67, .invokevirtual 314, 3, 224, 1, 1885, 0), (70, .ifCond .ne 5, 3, 75, 0, 0, 0), (73, .iconst 0, 1, 0, 0, 0, 0), (74, .ireturn, 1, 0, 0, 0, 0), (75, .aload_n 0, 1, 0, 0, 0, 0), (76, .getfield 7, 3, 11, 0, 1440, 0), (79, .iload_n 1, 1, 0, 0, 0, 0), (80, .iconst 1, 1, 0, 0, 0, 0), (81, .iadd, 1, 0, 0, 0, 0), (82, .aload_n 0, 1, 0, 0, 0, 0), (83, .getfield 278, 3, 11, 25, 1465, 0), (86, .iastore, 1, 0, 0, 0, 0), (87, .aload_n 0, 1, 0, 0, 0, 0), (88, .ldc 223, 2, 1, 0, 1756, 0), (90, .bipush 14, 2, 0, 0, 0, 0), (92, .invokevirtual 235, 3, 200, 3, 1833, 0), (95, .ifCond .ne 5, 3, 100, 0, 0, 0), (98, .iconst 0, 1, 0, 0, 0, 0), (99, .ireturn, 1, 0, 0, 0, 0), (100, .aload_n 0, 1, 0, 0, 0, 0), (101, .ldc 223, 2, 1, 0, 1756, 0), (103, .invokevirtual 215, 3, 196, 2, 1757, 0), (106, .istore_n 2, 1, 0, 0, 0, 0), (107, .iload_n 2, 1, 0, 0, 0, 0), (108, .bipush 15, 2, 0, 0, 0, 0), (110, .if_icmp .lt 9, 3, 119, 0, 0, 0), (113, .iload_n 2, 1, 0, 0, 0, 0), (114, .bipush 17, 2, 0, 0, 0, 0), (116, .if_icmp .le 9, 3, 125, 0, 0, 0), (119, .aload_n 0, 1, 0, 0, 0, 0), (120, .iconst 2, 1, 0, 0, 0, 0), (121, .invokevirtual 212, 3, 197, 2, 1813, 0), (124, .ireturn, 1, 0, 0, 0, 0), (125, .aload_n 0, 1, 0, 0, 0, 0), (126, .getfield 7, 3, 11, 0, 1440, 0), (129, .iload_n 1, 1, 0, 0, 0, 0), (130, .iconst 2, 1, 0, 0, 0, 0), (131, .iadd, 1, 0, 0, 0, 0), (132, .iload_n 2, 1, 0, 0, 0, 0), (133, .iastore, 1, 0, 0, 0, 0), (134, .aload_n 0, 1, 0, 0, 0, 0), (135, .invokevirtual 206, 3, 194, 1, 1732, 0), (138, .aload_n 0, 1, 0, 0, 0, 0), (139, .getfield 7, 3, 11, 0, 1440, 0), (142, .sipush 1403, 3, 0, 0, 0, 0), (145, .dup2, 1, 0, 0, 0, 0), (146, .iaload, 1, 0, 0, 0, 0), (147, .iconst 1, 1, 0, 0, 0, 0), (148, .iadd, 1, 0, 0, 0, 0), (149, .iastore, 1, 0, 0, 0, 0), (150, .aload_n 0, 1, 0, 0, 0, 0), (151, .bipush 59, 2, 0, 0, 0, 0), (153, .invokevirtual 265, 3, 199, 2, 1861, 0), (156, .ireturn, 1, 0, 0, 0, 0)]
def x_t_X12_rules : List (Nat × x_Row) := [(0, .aload_n 0, 1, 0, 0, 0, 0), (1, .iload_n 1, 1, 0, 0, 0, 0), (2, .sipush 300, 3, 0, 0, 0, 0), (5, .invokevirtual 268, 3, 198, 3, 1728, 0), (8, .ifCond .ne 9, 3, 17, 0, 0, 0), (11, .aload_n 0, 1, 0, 0, 0, 0), (12, .iconst 1, 1, 0, 0, 0, 0), (13, .invokevirtual 129, 3, 176, 2, 1748, 0), (16, .ireturn, 1, 0, 0, 0, 0), (17, .aload_n 0, 1, 0, 0, 0, 0), (18, .getfield 7, 3, 11, 0, 1440, 0), (21, .sipush 1403, 3, 0, 0, 0, 0), (24, .iconst 0, 1, 0, 0, 0, 0), (25, .iastore, 1, 0, 0, 0, 0), (26, .aload_n 0, 1, 0, 0, 0, 0), (27, .iconst 0, 1, 0, 0, 0, 0), (28, .putfield 296, 3, 11, 24, 1464, 0), (31, .aload_n 0, 1, 0, 0, 0, 0), (32, .iconst 0, 1, 0, 0, 0, 0), (33, .putfield 278, 3, 11, 25, 1465, 0), (36, .iconst 1, 1, 0, 0, 0, 0), (37, .istore_n 2, 1, 0, 0, 0, 0), (38, .iload_n 2, 1, 0, 0, 0, 0), (39, .ifCond .eq 18, 3, 57, 0, 0, 0), (42, .aload_n 0, 1, 0, 0, 0, 0), (43, .getfield 175, 3, 11, 12, 1452, 0), (46, .ifCond .eq 11, 3, 57, 0, 0, 0), (49, .aload_n 0, 1, 0, 0, 0, 0), (50, .invokevirtual 317, 3, 225, 1, 1881, 0), (53, .istore_n 2, 1, 0, 0, 0, 0), (54, .goto (-16), 3, 38, 0, 0, 0), (57, .aload_n 0, 1, 0, 0, 0, 0), (58, .getfield 200, 3, 11, 18, 1458, 0), (61, .ifCond .ne 57, 3, 118, 0, 0, 0), (64, .aload_n 0, 1, 0, 0, 0, 0), (65, .getfield 7, 3, 11, 0, 1440, 0), (68, .iconst 3, 1, 0, 0, 0, 0), (69, .aload_n 0, 1, 0, 0, 0, 0), (70, .getfield 7, 3, 11, 0, 1440, 0), (73, .sipush 1403, 3, 0, 0, 0, 0), (76, .iaload, 1, 0, 0, 0, 0), (77, .iastore, 1, 0, 0, 0, 0), (78, .aload_n 0, 1, 0, 0, 0, 0), (79, .getfield 7, 3, 11, 0, 1440, 0), (82, .bipush 8, 2, 0, 0, 0, 0), (84, .iconst 1, 1, 0, 0, 0, 0), (85, .iastore, 1, 0, 0, 0, 0), (86, .bipush 100, 2, 0, 0, 0, 0), (88, .istore_n 3, 1, 0, 0, 0, 0), (89, .iload_n 3, 1, 0, 0, 0, 0), (90, .sipush 350, 3, 0, 0, 0, 0), (93, .if_icmp .ge 25, 3, 118, 0, 0, 0), (96, .aload_n 0, 1, 0, 0, 0, 0), (97, .getfield 7, 3, 11, 0, 1440, 0), (100, .iload_n 3, 1, 0, 0, 0, 0), (101, .aload_n 0, 1, 0, 0, 0, 0), (102, .getfield 7, 3, 11, 0, 1440, 0), (105, .sipush 1400, 3, 0, 0, 0, 0), (108, .iload_n 3, 1, 0, 0, 0, 0), (109, .iadd, 1, 0, 0, 0, 0), (110, .iaload, 1, 0, 0, 0, 0), (111, .iastore, 1, 0, 0, 0, 0), (112, .iinc 3 1, 3, 0, 0, 0, 0), (115, .goto (-26), 3, 89, 0, 0, 0), (118, .aload_n 0, 1, 0, 0, 0, 0), (119, .aload_n 0, 1, 0, 0, 0, 0), (120, .getfield 7, 3, 11, 0, 1440, 0), (123, .iconst 3, 1, 0, 0, 0, 0), (124, .iaload, 1, 0, 0, 0, 0), (125, .invokevirtual 275, 3, 206, 2, 1869, 0), (128, .ireturn, 1, 0, 0, 0, 0)]
def x_t_X12_isPort : List (Nat × x_Row) := [(0, .iload_n 1, 1, 0, 0, 0, 0), (1, .ifCond .lt 17, 3, 18, 0, 0, 0), (4, .iload_n 1, 1, 0, 0, 0, 0), (5, .aload_n 0, 1, 0, 0, 0, 0), (6, .getfield 7, 3, 11, 0, 1440, 0), (9, .iconst 0, 1, 0, 0, 0, 0), (10, .iaload, 1, 0, 0, 0, 0), (11, .if_icmp .ge 7, 3, 18, 0, 0, 0), (14, .iconst 1, 1, 0, 0, 0, 0), (15, .goto 4, 3, 19, 0, 0, 0), (18, .iconst 0, 1, 0, 0, 0, 0), (19, .ireturn, 1, 0, 0, 0, 0)]
def x_t_X12_isShip : List (Nat × x_Row) := [(0, .iload_n 1, 1, 0, 0, 0, 0), (1, .ifCond .lt 17, 3, 18, 0, 0, 0), (4, .iload_n 1, 1, 0, 0, 0, 0), (5, .aload_n 0, 1, 0, 0, 0, 0), (6, .getfield 7, 3, 11, 0, 1440, 0), (9, .iconst 1, 1, 0, 0, 0, 0), (10, .iaload, 1, 0, 0, 0, 0), (11, .if_icmp .ge 7, 3, 18, 0, 0, 0), (14, .iconst 1, 1, 0, 0, 0, 0), (15, .goto 4, 3, 19, 0, 0, 0), (18, .iconst 0, 1, 0, 0, 0, 0), (19, .ireturn, 1, 0, 0, 0, 0)]
def x_t_X12_isCart : List (Nat × x_Row) := [(0, .iload_n 1, 1, 0, 0, 0, 0), (1, .ifCond .lt 17, 3, 18, 0, 0, 0), (4, .iload_n 1, 1, 0, 0, 0, 0), (5, .aload_n 0, 1, 0, 0, 0, 0), (6, .getfield 7, 3, 11, 0, 1440, 0), (9, .iconst 2, 1, 0, 0, 0, 0), (10, .iaload, 1, 0, 0, 0, 0), (11, .if_icmp .ge 7, 3, 18, 0, 0, 0), (14, .iconst 1, 1, 0, 0, 0, 0), (15, .goto 4, 3, 19, 0, 0, 0), (18, .iconst 0, 1, 0, 0, 0, 0), (19, .ireturn, 1, 0, 0, 0, 0)]
def x_t_X12_told : List (Nat × x_Row) := [(0, .iload_n 1, 1, 0, 0, 0, 0), (1, .ifCond .lt 9, 3, 10, 0, 0, 0), (4, .iload_n 1, 1, 0, 0, 0, 0), (5, .bipush 7, 2, 0, 0, 0, 0), (7, .if_icmp .le 11, 3, 18, 0, 0, 0), (10, .aload_n 0, 1, 0, 0, 0, 0), (11, .iconst 1, 1, 0, 0, 0, 0), (12, .invokevirtual 129, 3, 176, 2, 1748, 0), (15, .goto 13, 3, 28, 0, 0, 0), (18, .aload_n 0, 1, 0, 0, 0, 0), (19, .aload_n 0, 1, 0, 0, 0, 0), (20, .getfield 7, 3, 11, 0, 1440, 0), (23, .iload_n 1, 1, 0, 0, 0, 0), (24, .iaload, 1, 0, 0, 0, 0), (25, .invokevirtual 133, 3, 177, 2, 1873, 0), (28, .ireturn, 1, 0, 0, 0, 0)]
def x_t_X12_ship : List (Nat × x_Row) := [(0, .aload_n 0, 1, 0, 0, 0, 0), (1, .iload_n 1, 1, 0, 0, 0, 0), (2, .invokevirtual 320, 3, 228, 2, 1929, 0), (5, .ifCond .eq 32, 3, 37, 0, 0, 0), (8, .iload_n 2, 1, 0, 0, 0, 0), (9, .ifCond .lt 28, 3, 37, 0, 0, 0), (12, .iload_n 2, 1, 0, 0, 0, 0), (13, .iconst 4, 1, 0, 0, 0, 0), (14, .if_icmp .gt 23, 3, 37, 0, 0, 0), (17, .aload_n 0, 1, 0, 0, 0, 0), (18, .aload_n 0, 1, 0, 0, 0, 0), (19, .getfield 7, 3, 11, 0, 1440, 0), (22, .bipush 52, 2, 0, 0, 0, 0), (24, .iconst 5, 1, 0, 0, 0, 0), (25, .iload_n 1, 1, 0, 0, 0, 0), (26, .imul, 1, 0, 0, 0, 0), (27, .iadd, 1, 0, 0, 0, 0), (28, .iload_n 2, 1, 0, 0, 0, 0), (29, .iadd, 1, 0, 0, 0, 0), (30, .iaload, 1, 0, 0, 0, 0), (31, .invokevirtual 133, 3, 177, 2, 1873, 0), (34, .goto 8, 3, 42, 0, 0, 0), (37, .aload_n 0, 1, 0, 0, 0, 0), (38, .iconst 1, 1, 0, 0, 0, 0), (39, .invokevirtual 129, 3, 176, 2, 1748, 0), (42, .ireturn, 1, 0, 0, 0, 0)]
def x_t_X12_cart : List (Nat × x_Row) := [(0, .aload_n 0, 1, 0, 0, 0, 0), (1, .iload_n 1, 1, 0, 0, 0, 0), (2, .invokevirtual 323, 3, 229, 2, 1937, 0), (5, .ifCond .eq 32, 3, 37, 0, 0, 0), (8, .iload_n 2, 1, 0, 0, 0, 0), (9, .ifCond .lt 28, 3, 37, 0, 0, 0), (12, .iload_n 2, 1, 0, 0, 0, 0), (13, .iconst 2, 1, 0, 0, 0, 0), (14, .if_icmp .gt 23, 3, 37, 0, 0, 0), (17, .aload_n 0, 1, 0, 0, 0, 0), (18, .aload_n 0, 1, 0, 0, 0, 0), (19, .getfield 7, 3, 11, 0, 1440, 0), (22, .bipush 82, 2, 0, 0, 0, 0), (24, .iconst 3, 1, 0, 0, 0, 0), (25, .iload_n 1, 1, 0, 0, 0, 0), (26, .imul, 1, 0, 0, 0, 0), (27, .iadd, 1, 0, 0, 0, 0), (28, .iload_n 2, 1, 0, 0, 0, 0), (29, .iadd, 1, 0, 0, 0, 0), (30, .iaload, 1, 0, 0, 0, 0), (31, .invokevirtual 133, 3, 177, 2, 1873, 0), (34, .goto 8, 3, 42, 0, 0, 0), (37, .aload_n 0, 1, 0, 0, 0, 0), (38, .iconst 1, 1, 0, 0, 0, 0), (39, .invokevirtual 129, 3, 176, 2, 1748, 0), (42, .ireturn, 1, 0, 0, 0, 0)]
def x_t_X12_beatsOf : List (Nat × x_Row) := [(0, .lconst 0, 1, 0, 0, 0, 0), (1, .lstore_n 3, 1, 0, 0, 0, 0), (2, .iconst 0, 1, 0, 0, 0, 0), (3, .istore 5, 2, 0, 0, 0, 0), (5, .iconst 0, 1, 0, 0, 0, 0), (6, .istore 6, 2, 0, 0, 0, 0), (8, .iload 6, 2, 0, 0, 0, 0), (10, .iload_n 2, 1, 0, 0, 0, 0), (11, .if_icmp .ge 65, 3, 76, 0, 0, 0), (14, .aload_n 0, 1, 0, 0, 0, 0), (15, .getfield 7, 3, 11, 0, 1440, 0), (18, .iload_n 1, 1, 0, 0, 0, 0), (19, .iload 6, 2, 0, 0, 0, 0), (21, .iadd, 1, 0, 0, 0, 0), (22, .iaload, 1, 0, 0, 0, 0), (23, .bipush 108, 2, 0, 0, 0, 0), (25, .if_icmp .ne 7, 3, 32, 0, 0, 0), (28, .iconst 3, 1, 0, 0, 0, 0), (29, .goto 4, 3, 33, 0, 0, 0), (32, .iconst 1, 1, 0, 0, 0, 0), (33, .istore 7, 2, 0, 0, 0, 0), (35, .iconst 0, 1, 0, 0, 0, 0), (36, .istore 8, 2, 0, 0, 0, 0), (38, .iload 8, 2, 0, 0, 0, 0), (40, .iload 7, 2, 0, 0, 0, 0), (42, .if_icmp .ge 19, 3, 61, 0, 0, 0), (45, .lload_n 3, 1, 0, 0, 0, 0), (46, .lconst 1, 1, 0, 0, 0, 0), (47, .iload 5, 2, 0, 0, 0, 0), (49, .iload 8, 2, 0, 0, 0, 0), (51, .iadd, 1, 0, 0, 0, 0), (52, .lshl, 1, 0, 0, 0, 0), (53, .lor, 1, 0, 0, 0, 0), (54, .lstore_n 3, 1, 0, 0, 0, 0), (55, .iinc 8 1, 3, 0, 0, 0, 0), (58, .goto (-20), 3, 38, 0, 0, 0), (61, .iload 5, 2, 0, 0, 0, 0), (63, .iload 7, 2, 0, 0, 0, 0), (65, .iconst 1, 1, 0, 0, 0, 0), (66, .iadd, 1, 0, 0, 0, 0), (67, .iadd, 1, 0, 0, 0, 0), (68, .istore 5, 2, 0, 0, 0, 0), (70, .iinc 6 1, 3, 0, 0, 0, 0), (73, .goto (-65), 3, 8, 0, 0, 0), (76, .lload_n 3, 1, 0, 0, 0, 0), (77, .lreturn, 1, 0, 0, 0, 0)]
def x_t_X12_soundOf : List (Nat × x_Row) := [(0, .aload_n 0, 1, 0, 0, 0, 0), (1, .bipush 10, 2, 0, 0, 0, 0), (3, .bipush 7, 2, 0, 0, 0, 0), (5, .iload_n 1, 1, 0, 0, 0, 0), (6, .imul, 1, 0, 0, 0, 0), (7, .iadd, 1, 0, 0, 0, 0), (8, .iconst 1, 1, 0, 0, 0, 0), (9, .iadd, 1, 0, 0, 0, 0), (10, .aload_n 0, 1, 0, 0, 0, 0), (11, .getfield 7, 3, 11, 0, 1440, 0), (14, .bipush 10, 2, 0, 0, 0, 0), (16, .bipush 7, 2, 0, 0, 0, 0), (18, .iload_n 1, 1, 0, 0, 0, 0), (19, .imul, 1, 0, 0, 0, 0), (20, .iadd, 1, 0, 0, 0, 0), (21, .iaload, 1, 0, 0, 0, 0), (22, .invokevirtual 326, 3, 233, 3, 1953, 0), (25, .lreturn, 1, 0, 0, 0, 0)]
def x_t_X12_echoed : List (Nat × x_Row) := [(0, .iload_n 2, 1, 0, 0, 0, 0), (1, .ifCond .ne 7, 3, 8, 0, 0, 0), (4, .lload_n 0, 1, 0, 0, 0, 0), (5, .goto 8, 3, 13, 0, 0, 0), (8, .lload_n 0, 1, 0, 0, 0, 0), (9, .lload_n 0, 1, 0, 0, 0, 0), (10, .iload_n 2, 1, 0, 0, 0, 0), (11, .lshl, 1, 0, 0, 0, 0), (12, .lor, 1, 0, 0, 0, 0), (13, .lreturn, 1, 0, 0, 0, 0)]
def x_t_X12_heardOf : List (Nat × x_Row) := [(0, .aload_n 0, 1, 0, 0, 0, 0), (1, .iload_n 1, 1, 0, 0, 0, 0), (2, .invokevirtual 330, 3, 234, 2, 1949, 0), (5, .aload_n 0, 1, 0, 0, 0, 0), (6, .getfield 7, 3, 11, 0, 1440, 0), (9, .bipush 7, 2, 0, 0, 0, 0), (11, .iaload, 1, 0, 0, 0, 0), (12, .invokestatic 334, 3, 235, 2, 1969, 0), (15, .lreturn, 1, 0, 0, 0, 0)]
def x_t_X12_bits : List (Nat × x_Row) := [(0, .iconst 0, 1, 0, 0, 0, 0), (1, .istore_n 2, 1, 0, 0, 0, 0), (2, .lload_n 0, 1, 0, 0, 0, 0), (3, .lstore_n 3, 1, 0, 0, 0, 0), (4, .lload_n 3, 1, 0, 0, 0, 0), (5, .lconst 0, 1, 0, 0, 0, 0), (6, .lcmp, 1, 0, 0, 0, 0), (7, .ifCond .eq 15, 3, 22, 0, 0, 0), (10, .iinc 2 1, 3, 0, 0, 0, 0), (13, .lload_n 3, 1, 0, 0, 0, 0), (14, .lload_n 3, 1, 0, 0, 0, 0), (15, .lconst 1, 1, 0, 0, 0, 0), (16, .lsub, 1, 0, 0, 0, 0), (17, .land, 1, 0, 0, 0, 0), (18, .lstore_n 3, 1, 0, 0, 0, 0), (19, .goto (-15), 3, 4, 0, 0, 0), (22, .iload_n 2, 1, 0, 0, 0, 0), (23, .ireturn, 1, 0, 0, 0, 0)]
def x_t_X12_sound : List (Nat × x_Row) := [(0, .aload_n 0, 1, 0, 0, 0, 0), (1, .iload_n 1, 1, 0, 0, 0, 0), (2, .invokevirtual 337, 3, 227, 2, 1945, 0), (5, .ifCond .eq 15, 3, 20, 0, 0, 0), (8, .aload_n 0, 1, 0, 0, 0, 0), (9, .aload_n 0, 1, 0, 0, 0, 0), (10, .iload_n 1, 1, 0, 0, 0, 0), (11, .invokevirtual 330, 3, 234, 2, 1949, 0), (14, .invokevirtual 340, 3, 179, 2, 1957, 0), (17, .goto 9, 3, 26, 0, 0, 0), (20, .aload_n 0, 1, 0, 0, 0, 0), (21, .iconst 1, 1, 0, 0, 0, 0), (22, .invokevirtual 129, 3, 176, 2, 1748, 0), (25, .i2l, 1, 0, 0, 0, 0), (26, .lreturn, 1, 0, 0, 0, 0)]
def x_t_X12_heard : List (Nat × x_Row) := [(0, .aload_n 0, 1, 0, 0, 0, 0), (1, .iload_n 1, 1, 0, 0, 0, 0), (2, .invokevirtual 337, 3, 227, 2, 1945, 0), (5, .ifCond .eq 15, 3, 20, 0, 0, 0), (8, .aload_n 0, 1, 0, 0, 0, 0), (9, .aload_n 0, 1, 0, 0, 0, 0), (10, .iload_n 1, 1, 0, 0, 0, 0), (11, .invokevirtual 344, 3, 236, 2, 1965, 0), (14, .invokevirtual 340, 3, 179, 2, 1957, 0), (17, .goto 9, 3, 26, 0, 0, 0), (20, .aload_n 0, 1, 0, 0, 0, 0), (21, .iconst 1, 1, 0, 0, 0, 0), (22, .invokevirtual 129, 3, 176, 2, 1748, 0), (25, .i2l, 1, 0, 0, 0, 0), (26, .lreturn, 1, 0, 0, 0, 0)]
def x_t_X12_together : List (Nat × x_Row) := [(0, .aload_n 0, 1, 0, 0, 0, 0), (1, .iload_n 1, 1, 0, 0, 0, 0), (2, .invokevirtual 337, 3, 227, 2, 1945, 0), (5, .ifCond .eq 43, 3, 48, 0, 0, 0), (8, .aload_n 0, 1, 0, 0, 0, 0), (9, .iload_n 2, 1, 0, 0, 0, 0), (10, .invokevirtual 337, 3, 227, 2, 1945, 0), (13, .ifCond .eq 35, 3, 48, 0, 0, 0), (16, .iload_n 3, 1, 0, 0, 0, 0), (17, .i2l, 1, 0, 0, 0, 0), (18, .lconst 0, 1, 0, 0, 0, 0), (19, .ldc2_w 347, 3, 0, 0, 1976, 12), (22, .invokestatic 349, 3, 188, 3, 1977, 0), (25, .ifCond .eq 23, 3, 48, 0, 0, 0), (28, .aload_n 0, 1, 0, 0, 0, 0), (29, .aload_n 0, 1, 0, 0, 0, 0), (30, .iload_n 1, 1, 0, 0, 0, 0), (31, .invokevirtual 344, 3, 236, 2, 1965, 0), (34, .aload_n 0, 1, 0, 0, 0, 0), (35, .iload_n 2, 1, 0, 0, 0, 0), (36, .invokevirtual 344, 3, 236, 2, 1965, 0), (39, .iload_n 3, 1, 0, 0, 0, 0), (40, .lshl, 1, 0, 0, 0, 0), (41, .lor, 1, 0, 0, 0, 0), (42, .invokevirtual 340, 3, 179, 2, 1957, 0), (45, .goto 9, 3, 54, 0, 0, 0), (48, .aload_n 0, 1, 0, 0, 0, 0), (49, .iconst 1, 1, 0, 0, 0, 0), (50, .invokevirtual 129, 3, 176, 2, 1748, 0), (53, .i2l, 1, 0, 0, 0, 0), (54, .lreturn, 1, 0, 0, 0, 0)]
def x_t_X12_lasts : List (Nat × x_Row) := [(0, .aload_n 0, 1, 0, 0, 0, 0), (1, .iload_n 1, 1, 0, 0, 0, 0), (2, .invokevirtual 337, 3, 227, 2, 1945, 0), (5, .ifCond .ne 9, 3, 14, 0, 0, 0), (8, .aload_n 0, 1, 0, 0, 0, 0), (9, .iconst 1, 1, 0, 0, 0, 0), (10, .invokevirtual 129, 3, 176, 2, 1748, 0), (13, .ireturn, 1, 0, 0, 0, 0), (14, .iconst 0, 1, 0, 0, 0, 0), (15, .istore_n 2, 1, 0, 0, 0, 0), (16, .aload_n 0, 1, 0, 0, 0, 0), (17, .iload_n 1, 1, 0, 0, 0, 0), (18, .invokevirtual 344, 3, 236, 2, 1965, 0), (21, .lstore_n 3, 1, 0, 0, 0, 0), (22, .lload_n 3, 1, 0, 0, 0, 0), (23, .lconst 0, 1, 0, 0, 0, 0), (24, .lcmp, 1, 0, 0, 0, 0), (25, .ifCond .le 13, 3, 38, 0, 0, 0), (28, .iinc 2 1, 3, 0, 0, 0, 0), (31, .lload_n 3, 1, 0, 0, 0, 0), (32, .iconst 1, 1, 0, 0, 0, 0), (33, .lshr, 1, 0, 0, 0, 0), (34, .lstore_n 3, 1, 0, 0, 0, 0), (35, .goto (-13), 3, 22, 0, 0, 0), (38, .aload_n 0, 1, 0, 0, 0, 0), (39, .iload_n 2, 1, 0, 0, 0, 0), (40, .invokevirtual 133, 3, 177, 2, 1873, 0), (43, .ireturn, 1, 0, 0, 0, 0)]
def x_t_X12_far : List (Nat × x_Row) := [(0, .aload_n 0, 1, 0, 0, 0, 0), (1, .iload_n 1, 1, 0, 0, 0, 0), (2, .invokevirtual 337, 3, 227, 2, 1945, 0), (5, .ifCond .eq 32, 3, 37, 0, 0, 0), (8, .aload_n 0, 1, 0, 0, 0, 0), (9, .iload_n 2, 1, 0, 0, 0, 0), (10, .invokevirtual 337, 3, 227, 2, 1945, 0), (13, .ifCond .eq 24, 3, 37, 0, 0, 0), (16, .aload_n 0, 1, 0, 0, 0, 0), (17, .aload_n 0, 1, 0, 0, 0, 0), (18, .iload_n 1, 1, 0, 0, 0, 0), (19, .invokevirtual 344, 3, 236, 2, 1965, 0), (22, .aload_n 0, 1, 0, 0, 0, 0), (23, .iload_n 2, 1, 0, 0, 0, 0), (24, .invokevirtual 344, 3, 236, 2, 1965, 0), (27, .lxor, 1, 0, 0, 0, 0), (28, .invokestatic 353, 3, 237, 1, 1988, 0), (31, .invokevirtual 133, 3, 177, 2, 1873, 0), (34, .goto 8, 3, 42, 0, 0, 0), (37, .aload_n 0, 1, 0, 0, 0, 0), (38, .iconst 1, 1, 0, 0, 0, 0), (39, .invokevirtual 129, 3, 176, 2, 1748, 0), (42, .ireturn, 1, 0, 0, 0, 0)]
def x_t_X12_reads : List (Nat × x_Row) := [(0, .aload_n 0, 1, 0, 0, 0, 0), (1, .getfield 47, 3, 11, 26, 1466, 0), (4, .aload_n 0, 1, 0, 0, 0, 0), (5, .getfield 357, 3, 11, 29, 1469, 0), (8, .iload_n 1, 1, 0, 0, 0, 0), (9, .iastore, 1, 0, 0, 0, 0), (10, .aload_n 0, 1, 0, 0, 0, 0), (11, .getfield 50, 3, 11, 27, 1467, 0), (14, .aload_n 0, 1, 0, 0, 0, 0), (15, .getfield 357, 3, 11, 29, 1469, 0), (18, .iload_n 2, 1, 0, 0, 0, 0), (19, .iastore, 1, 0, 0, 0, 0), (20, .aload_n 0, 1, 0, 0, 0, 0), (21, .getfield 53, 3, 11, 28, 1468, 0), (24, .aload_n 0, 1, 0, 0, 0, 0), (25, .getfield 357, 3, 11, 29, 1469, 0), (28, .iload_n 3, 1, 0, 0, 0, 0), (29, .iastore, 1, 0, 0, 0, 0), (30, .aload_n 0, 1, 0, 0, 0, 0), (31, .dup, 1, 0, 0, 0, 0), (32, .getfield 357, 3, 11, 29, 1469, 0), (35, .iconst 1, 1, 0, 0, 0, 0), (36, .iadd, 1, 0, 0, 0, 0), (37, .putfield 357, 3, 11, 29, 1469, 0), (40, .return_, 1, 0, 0, 0, 0)]
def x_t_X12_findsReadings : List (Nat × x_Row) := [(0, .aload_n 0, 1, 0, 0, 0, 0), (1, .iconst 0, 1, 0, 0, 0, 0), (2, .putfield 357, 3, 11, 29, 1469, 0), (5, .aload_n 0, 1, 0, 0, 0, 0), (6, .getfield 7, 3, 11, 0, 1440, 0), (9, .iconst 0, 1, 0, 0, 0, 0), (10, .iaload, 1, 0, 0, 0, 0), (11, .istore_n 3, 1, 0, 0, 0, 0), (12, .iconst 0, 1, 0, 0, 0, 0), (13, .istore 4, 2, 0, 0, 0, 0), (15, .iload 4, 2, 0, 0, 0, 0), (17, .iload_n 3, 1, 0, 0, 0, 0), (18, .if_icmp .ge 28, 3, 46, 0, 0, 0), (21, .aload_n 0, 1, 0, 0, 0, 0), (22, .iload 4, 2, 0, 0, 0, 0), (24, .invokevirtual 344, 3, 236, 2, 1965, 0), (27, .lload_n 1, 1, 0, 0, 0, 0), (28, .lcmp, 1, 0, 0, 0, 0), (29, .ifCond .ne 11, 3, 40, 0, 0, 0), (32, .aload_n 0, 1, 0, 0, 0, 0), (33, .iload 4, 2, 0, 0, 0, 0), (35, .iconst (-1), 1, 0, 0, 0, 0), (36, .iconst (-1), 1, 0, 0, 0, 0), (37, .invokevirtual 360, 3, 243, 4, 1999, 0), (40, .iinc 4 1, 3, 0, 0, 0, 0), (43, .goto (-28), 3, 15, 0, 0, 0), (46, .iconst 0, 1, 0, 0, 0, 0), (47, .istore 4, 2, 0, 0, 0, 0), (49, .iload 4, 2, 0, 0, 0, 0), (51, .iload_n 3, 1, 0, 0, 0, 0), (52, .if_icmp .ge 82, 3, 134, 0, 0, 0), (55, .iconst 0, 1, 0, 0, 0, 0), (56, .istore 5, 2, 0, 0, 0, 0), (58, .iload 5, 2, 0, 0, 0, 0), (60, .iload_n 3, 1, 0, 0, 0, 0), (61, .if_icmp .ge 67, 3, 128, 0, 0, 0), (64, .iload 5, 2, 0, 0, 0, 0), (66, .iload 4, 2, 0, 0, 0, 0), (68, .if_icmp .ge 7, 3, 75, 0, 0, 0), (71, .iconst 1, 1, 0, 0, 0, 0), (72, .goto 4, 3, 76, 0, 0, 0), (75, .iconst 0, 1, 0, 0, 0, 0), (76, .istore 6, 2, 0, 0, 0, 0), (78, .iload 6, 2, 0, 0, 0, 0), (80, .bipush 12, 2, 0, 0, 0, 0), (82, .if_icmp .gt 40, 3, 122, 0, 0, 0), (85, .aload_n 0, 1, 0, 0, 0, 0), (86, .iload 4, 2, 0, 0, 0, 0), (88, .invokevirtual 344, 3, 236, 2, 1965, 0), (91, .aload_n 0, 1, 0, 0, 0, 0), (92, .iload 5, 2, 0, 0, 0, 0), (94, .invokevirtual 344, 3, 236, 2, 1965, 0), (97, .iload 6, 2, 0, 0, 0, 0), (99, .lshl, 1, 0, 0, 0, 0), (100, .lor, 1, 0, 0, 0, 0), (101, .lload_n 1, 1, 0, 0, 0, 0), (102, .lcmp, 1, 0, 0, 0, 0), (103, .ifCond .ne 13, 3, 116, 0, 0, 0), (106, .aload_n 0, 1, 0, 0, 0, 0), (107, .iload 4, 2, 0, 0, 0, 0), (109, .iload 5, 2, 0, 0, 0, 0), (111, .iload 6, 2, 0, 0, 0, 0), (113, .invokevirtual 360, 3, 243, 4, 1999, 0), (116, .iinc 6 1, 3, 0, 0, 0, 0), (119, .goto (-41), 3, 78, 0, 0, 0), (122, .iinc 5 1, 3, 0, 0, 0, 0), (125, .goto (-67), 3, 58, 0, 0, 0), (128, .iinc 4 1, 3, 0, 0, 0, 0), (131, .goto (-82), 3, 49, 0, 0, 0), (134, .return_, 1, 0, 0, 0, 0)]
def x_t_X12_readings : List (Nat × x_Row) := [(0, .lload_n 1, 1, 0, 0, 0, 0), (1, .lconst 1, 1, 0, 0, 0, 0), (2, .lcmp, 1, 0, 0, 0, 0), (3, .ifCond .ge 9, 3, 12, 0, 0, 0), (6, .aload_n 0, 1, 0, 0, 0, 0), (7, .iconst 1, 1, 0, 0, 0, 0), (8, .invokevirtual 129, 3, 176, 2, 1748, 0), (11, .ireturn, 1, 0, 0, 0, 0), (12, .aload_n 0, 1, 0, 0, 0, 0), (13, .lload_n 1, 1, 0, 0, 0, 0), (14, .invokevirtual 364, 3, 244, 2, 1995, 0), (17, .iconst 0, 1, 0, 0, 0, 0), (18, .istore_n 3, 1, 0, 0, 0, 0), (19, .iload_n 3, 1, 0, 0, 0, 0), (20, .aload_n 0, 1, 0, 0, 0, 0), (21, .getfield 357, 3, 11, 29, 1469, 0), (24, .if_icmp .ge 45, 3, 69, 0, 0, 0), (27, .aload_n 0, 1, 0, 0, 0, 0), (28, .getfield 56, 3, 11, 31, 1471, 0), (31, .iload_n 3, 1, 0, 0, 0, 0), (32, .aload_n 0, 1, 0, 0, 0, 0), (33, .getfield 47, 3, 11, 26, 1466, 0), (36, .iload_n 3, 1, 0, 0, 0, 0), (37, .iaload, 1, 0, 0, 0, 0), (38, .iastore, 1, 0, 0, 0, 0), (39, .aload_n 0, 1, 0, 0, 0, 0), (40, .getfield 59, 3, 11, 32, 1472, 0), (43, .iload_n 3, 1, 0, 0, 0, 0), (44, .aload_n 0, 1, 0, 0, 0, 0), (45, .getfield 50, 3, 11, 27, 1467, 0), (48, .iload_n 3, 1, 0, 0, 0, 0), (49, .iaload, 1, 0, 0, 0, 0), (50, .iastore, 1, 0, 0, 0, 0), (51, .aload_n 0, 1, 0, 0, 0, 0), (52, .getfield 62, 3, 11, 33, 1473, 0), (55, .iload_n 3, 1, 0, 0, 0, 0), (56, .aload_n 0, 1, 0, 0, 0, 0), (57, .getfield 53, 3, 11, 28, 1468, 0), (60, .iload_n 3, 1, 0, 0, 0, 0), (61, .iaload, 1, 0, 0, 0, 0), (62, .iastore, 1, 0, 0, 0, 0), (63, .iinc 3 1, 3, 0, 0, 0, 0), (66, .goto (-47), 3, 19, 0, 0, 0), (69, .aload_n 0, 1, 0, 0, 0, 0), (70, .aload_n 0, 1, 0, 0, 0, 0), (71, .getfield 357, 3, 11, 29, 1469, 0), (74, .putfield 368, 3, 11, 30, 1470, 0), (77, .aload_n 0, 1, 0, 0, 0, 0), (78, .aload_n 0, 1, 0, 0, 0, 0), (79, .getfield 357, 3, 11, 29, 1469, 0), (82, .invokevirtual 133, 3, 177, 2, 1873, 0), (85, .ireturn, 1, 0, 0, 0, 0)]
def x_t_X12_reading : List (Nat × x_Row) := [(0, .iload_n 2, 1, 0, 0, 0, 0), (1, .ifCond .lt 8, 3, 9, 0, 0, 0), (4, .iload_n 2, 1, 0, 0, 0, 0), (5, .iconst 2, 1, 0, 0, 0, 0), (6, .if_icmp .le 9, 3, 15, 0, 0, 0), (9, .aload_n 0, 1, 0, 0, 0, 0), (10, .iconst 1, 1, 0, 0, 0, 0), (11, .invokevirtual 129, 3, 176, 2, 1748, 0), (14, .ireturn, 1, 0, 0, 0, 0), (15, .iload_n 1, 1, 0, 0, 0, 0), (16, .ifCond .lt 11, 3, 27, 0, 0, 0), (19, .iload_n 1, 1, 0, 0, 0, 0), (20, .aload_n 0, 1, 0, 0, 0, 0), (21, .getfield 368, 3, 11, 30, 1470, 0), (24, .if_icmp .lt 10, 3, 34, 0, 0, 0), (27, .aload_n 0, 1, 0, 0, 0, 0), (28, .bipush 6, 2, 0, 0, 0, 0), (30, .invokevirtual 129, 3, 176, 2, 1748, 0), (33, .ireturn, 1, 0, 0, 0, 0), (34, .aload_n 0, 1, 0, 0, 0, 0), (35, .iload_n 2, 1, 0, 0, 0, 0), (36, .ifCond .ne 12, 3, 48, 0, 0, 0), (39, .aload_n 0, 1, 0, 0, 0, 0), (40, .getfield 56, 3, 11, 31, 1471, 0), (43, .iload_n 1, 1, 0, 0, 0, 0), (44, .iaload, 1, 0, 0, 0, 0), (45, .goto 23, 3, 68, 0, 0, 0), (48, .iload_n 2, 1, 0, 0, 0, 0), (49, .iconst 1, 1, 0, 0, 0, 0), (50, .if_icmp .ne 12, 3, 62, 0, 0, 0), (53, .aload_n 0, 1, 0, 0, 0, 0), (54, .getfield 59, 3, 11, 32, 1472, 0), (57, .iload_n 1, 1, 0, 0, 0, 0), (58, .iaload, 1, 0, 0, 0, 0), (59, .goto 9, 3, 68, 0, 0, 0), (62, .aload_n 0, 1, 0, 0, 0, 0), (63, .getfield 62, 3, 11, 33, 1473, 0), (66, .iload_n 1, 1, 0, 0, 0, 0), (67, .iaload, 1, 0, 0, 0, 0), (68, .invokevirtual 371, 3, 178, 2, 2007, 0), (71, .ireturn, 1, 0, 0, 0, 0)]
def x_t_X12_doubt : List (Nat × x_Row) := [(0, .lload_n 1, 1, 0, 0, 0, 0), (1, .lconst 1, 1, 0, 0, 0, 0), (2, .lcmp, 1, 0, 0, 0, 0), (3, .ifCond .lt 11, 3, 14, 0, 0, 0), (6, .aload_n 0, 1, 0, 0, 0, 0), (7, .iload_n 3, 1, 0, 0, 0, 0), (8, .invokevirtual 337, 3, 227, 2, 1945, 0), (11, .ifCond .ne 9, 3, 20, 0, 0, 0), (14, .aload_n 0, 1, 0, 0, 0, 0), (15, .iconst 1, 1, 0, 0, 0, 0), (16, .invokevirtual 136, 3, 175, 2, 1688, 0), (19, .ireturn, 1, 0, 0, 0, 0), (20, .aload_n 0, 1, 0, 0, 0, 0), (21, .lload_n 1, 1, 0, 0, 0, 0), (22, .invokevirtual 364, 3, 244, 2, 1995, 0), (25, .aload_n 0, 1, 0, 0, 0, 0), (26, .getfield 357, 3, 11, 29, 1469, 0), (29, .ifCond .ne 10, 3, 39, 0, 0, 0), (32, .aload_n 0, 1, 0, 0, 0, 0), (33, .bipush 6, 2, 0, 0, 0, 0), (35, .invokevirtual 136, 3, 175, 2, 1688, 0), (38, .ireturn, 1, 0, 0, 0, 0), (39, .iconst 0, 1, 0, 0, 0, 0), (40, .istore 4, 2, 0, 0, 0, 0), (42, .iconst 0, 1, 0, 0, 0, 0), (43, .istore 5, 2, 0, 0, 0, 0), (45, .iload 5, 2, 0, 0, 0, 0), (47, .aload_n 0, 1, 0, 0, 0, 0), (48, .getfield 357, 3, 11, 29, 1469, 0), (51, .if_icmp .ge 41, 3, 92, 0, 0, 0), (54, .iload 4, 2, 0, 0, 0, 0), (56, .aload_n 0, 1, 0, 0, 0, 0), (57, .getfield 47, 3, 11, 26, 1466, 0), (60, .iload 5, 2, 0, 0, 0, 0), (62, .iaload, 1, 0, 0, 0, 0), (63, .iload_n 3, 1, 0, 0, 0, 0), (64, .if_icmp .eq 14, 3, 78, 0, 0, 0), (67, .aload_n 0, 1, 0, 0, 0, 0), (68, .getfield 50, 3, 11, 27, 1467, 0), (71, .iload 5, 2, 0, 0, 0, 0), (73, .iaload, 1, 0, 0, 0, 0), (74, .iload_n 3, 1, 0, 0, 0, 0), (75, .if_icmp .ne 7, 3, 82, 0, 0, 0), (78, .iconst 1, 1, 0, 0, 0, 0), (79, .goto 4, 3, 83, 0, 0, 0), (82, .iconst 0, 1, 0, 0, 0, 0), (83, .iadd, 1, 0, 0, 0, 0), (84, .istore 4, 2, 0, 0, 0, 0), (86, .iinc 5 1, 3, 0, 0, 0, 0), (89, .goto (-44), 3, 45, 0, 0, 0), (92, .aload_n 0, 1, 0, 0, 0, 0), (93, .iload 4, 2, 0, 0, 0, 0), (95, .i2l, 1, 0, 0, 0, 0), (96, .aload_n 0, 1, 0, 0, 0, 0), (97, .getfield 357, 3, 11, 29, 1469, 0), (100, .i2l, 1, 0, 0, 0, 0), (101, .invokevirtual 374, 3, 180, 3, 2015, 0), (104, .ireturn, 1, 0, 0, 0, 0)]
def x_t_X12_alike : List (Nat × x_Row) := [(0, .aload_n 0, 1, 0, 0, 0, 0), (1, .aload_n 0, 1, 0, 0, 0, 0), (2, .aload_n 0, 1, 0, 0, 0, 0), (3, .getfield 7, 3, 11, 0, 1440, 0), (6, .bipush 7, 2, 0, 0, 0, 0), (8, .iaload, 1, 0, 0, 0, 0), (9, .invokevirtual 378, 3, 251, 2, 2023, 0), (12, .invokevirtual 133, 3, 177, 2, 1873, 0), (15, .ireturn, 1, 0, 0, 0, 0)]
def x_t_X12_parts : List (Nat × x_Row) := [(0, .lload_n 1, 1, 0, 0, 0, 0), (1, .lconst 1, 1, 0, 0, 0, 0), (2, .lcmp, 1, 0, 0, 0, 0), (3, .ifCond .ge 9, 3, 12, 0, 0, 0), (6, .aload_n 0, 1, 0, 0, 0, 0), (7, .iconst 1, 1, 0, 0, 0, 0), (8, .invokevirtual 129, 3, 176, 2, 1748, 0), (11, .ireturn, 1, 0, 0, 0, 0), (12, .iconst 0, 1, 0, 0, 0, 0), (13, .istore_n 3, 1, 0, 0, 0, 0), (14, .iconst 0, 1, 0, 0, 0, 0), (15, .istore 4, 2, 0, 0, 0, 0), (17, .iload 4, 2, 0, 0, 0, 0), (19, .aload_n 0, 1, 0, 0, 0, 0), (20, .getfield 7, 3, 11, 0, 1440, 0), (23, .iconst 0, 1, 0, 0, 0, 0), (24, .iaload, 1, 0, 0, 0, 0), (25, .if_icmp .ge 37, 3, 62, 0, 0, 0), (28, .iload_n 3, 1, 0, 0, 0, 0), (29, .aload_n 0, 1, 0, 0, 0, 0), (30, .iload 4, 2, 0, 0, 0, 0), (32, .invokevirtual 344, 3, 236, 2, 1965, 0), (35, .lload_n 1, 1, 0, 0, 0, 0), (36, .ldc2_w 151, 3, 0, 0, 1707, -1), (39, .lxor, 1, 0, 0, 0, 0), (40, .land, 1, 0, 0, 0, 0), (41, .lconst 0, 1, 0, 0, 0, 0), (42, .lcmp, 1, 0, 0, 0, 0), (43, .ifCond .ne 10, 3, 53, 0, 0, 0), (46, .iconst 1, 1, 0, 0, 0, 0), (47, .iload 4, 2, 0, 0, 0, 0), (49, .ishl, 1, 0, 0, 0, 0), (50, .goto 4, 3, 54, 0, 0, 0), (53, .iconst 0, 1, 0, 0, 0, 0), (54, .ior, 1, 0, 0, 0, 0), (55, .istore_n 3, 1, 0, 0, 0, 0), (56, .iinc 4 1, 3, 0, 0, 0, 0), (59, .goto (-42), 3, 17, 0, 0, 0), (62, .aload_n 0, 1, 0, 0, 0, 0), (63, .iload_n 3, 1, 0, 0, 0, 0), (64, .invokevirtual 133, 3, 177, 2, 1873, 0), (67, .ireturn, 1, 0, 0, 0, 0)]
def x_t_X12_clearBeats : List (Nat × x_Row) := [(0, .aload_n 0, 1, 0, 0, 0, 0), (1, .iload_n 1, 1, 0, 0, 0, 0), (2, .invokevirtual 337, 3, 227, 2, 1945, 0), (5, .ifCond .eq 11, 3, 16, 0, 0, 0), (8, .aload_n 0, 1, 0, 0, 0, 0), (9, .iload_n 2, 1, 0, 0, 0, 0), (10, .invokevirtual 337, 3, 227, 2, 1945, 0), (13, .ifCond .ne 9, 3, 22, 0, 0, 0), (16, .aload_n 0, 1, 0, 0, 0, 0), (17, .iconst 1, 1, 0, 0, 0, 0), (18, .invokevirtual 129, 3, 176, 2, 1748, 0), (21, .ireturn, 1, 0, 0, 0, 0), (22, .iconst 0, 1, 0, 0, 0, 0), (23, .istore_n 3, 1, 0, 0, 0, 0), (24, .iload_n 3, 1, 0, 0, 0, 0), (25, .bipush 12, 2, 0, 0, 0, 0), (27, .if_icmp .gt 40, 3, 67, 0, 0, 0), (30, .aload_n 0, 1, 0, 0, 0, 0), (31, .aload_n 0, 1, 0, 0, 0, 0), (32, .iload_n 1, 1, 0, 0, 0, 0), (33, .invokevirtual 344, 3, 236, 2, 1965, 0), (36, .aload_n 0, 1, 0, 0, 0, 0), (37, .iload_n 2, 1, 0, 0, 0, 0), (38, .invokevirtual 344, 3, 236, 2, 1965, 0), (41, .iload_n 3, 1, 0, 0, 0, 0), (42, .lshl, 1, 0, 0, 0, 0), (43, .lor, 1, 0, 0, 0, 0), (44, .invokevirtual 364, 3, 244, 2, 1995, 0), (47, .aload_n 0, 1, 0, 0, 0, 0), (48, .getfield 357, 3, 11, 29, 1469, 0), (51, .iconst 1, 1, 0, 0, 0, 0), (52, .if_icmp .ne 9, 3, 61, 0, 0, 0), (55, .aload_n 0, 1, 0, 0, 0, 0), (56, .iload_n 3, 1, 0, 0, 0, 0), (57, .invokevirtual 133, 3, 177, 2, 1873, 0), (60, .ireturn, 1, 0, 0, 0, 0), (61, .iinc 3 1, 3, 0, 0, 0, 0), (64, .goto (-40), 3, 24, 0, 0, 0), (67, .aload_n 0, 1, 0, 0, 0, 0), (68, .bipush 6, 2, 0, 0, 0, 0), (70, .invokevirtual 129, 3, 176, 2, 1748, 0), (73, .ireturn, 1, 0, 0, 0, 0)]
def x_t_X12_alikeBy : List (Nat × x_Row) := [(0, .iconst 0, 1, 0, 0, 0, 0), (1, .istore_n 2, 1, 0, 0, 0, 0), (2, .iconst 0, 1, 0, 0, 0, 0), (3, .istore_n 3, 1, 0, 0, 0, 0), (4, .iload_n 3, 1, 0, 0, 0, 0), (5, .aload_n 0, 1, 0, 0, 0, 0), (6, .getfield 7, 3, 11, 0, 1440, 0), (9, .iconst 0, 1, 0, 0, 0, 0), (10, .iaload, 1, 0, 0, 0, 0), (11, .if_icmp .ge 62, 3, 73, 0, 0, 0), (14, .iload_n 3, 1, 0, 0, 0, 0), (15, .iconst 1, 1, 0, 0, 0, 0), (16, .iadd, 1, 0, 0, 0, 0), (17, .istore 4, 2, 0, 0, 0, 0), (19, .iload 4, 2, 0, 0, 0, 0), (21, .aload_n 0, 1, 0, 0, 0, 0), (22, .getfield 7, 3, 11, 0, 1440, 0), (25, .iconst 0, 1, 0, 0, 0, 0), (26, .iaload, 1, 0, 0, 0, 0), (27, .if_icmp .ge 40, 3, 67, 0, 0, 0), (30, .iload_n 2, 1, 0, 0, 0, 0), (31, .aload_n 0, 1, 0, 0, 0, 0), (32, .iload_n 3, 1, 0, 0, 0, 0), (33, .invokevirtual 330, 3, 234, 2, 1949, 0), (36, .iload_n 1, 1, 0, 0, 0, 0), (37, .invokestatic 334, 3, 235, 2, 1969, 0), (40, .aload_n 0, 1, 0, 0, 0, 0), (41, .iload 4, 2, 0, 0, 0, 0), (43, .invokevirtual 330, 3, 234, 2, 1949, 0), (46, .iload_n 1, 1, 0, 0, 0, 0), (47, .invokestatic 334, 3, 235, 2, 1969, 0), (50, .lcmp, 1, 0, 0, 0, 0), (51, .ifCond .ne 7, 3, 58, 0, 0, 0), (54, .iconst 1, 1, 0, 0, 0, 0), (55, .goto 4, 3, 59, 0, 0, 0), (58, .iconst 0, 1, 0, 0, 0, 0), (59, .iadd, 1, 0, 0, 0, 0), (60, .istore_n 2, 1, 0, 0, 0, 0), (61, .iinc 4 1, 3, 0, 0, 0, 0), (64, .goto (-45), 3, 19, 0, 0, 0), (67, .iinc 3 1, 3, 0, 0, 0, 0), (70, .goto (-66), 3, 4, 0, 0, 0), (73, .iload_n 2, 1, 0, 0, 0, 0), (74, .ireturn, 1, 0, 0, 0, 0)]
def x_t_X12_clearEcho : List (Nat × x_Row) := [(0, .iconst 0, 1, 0, 0, 0, 0), (1, .istore_n 1, 1, 0, 0, 0, 0), (2, .iload_n 1, 1, 0, 0, 0, 0), (3, .bipush 10, 2, 0, 0, 0, 0), (5, .if_icmp .ge 23, 3, 28, 0, 0, 0), (8, .aload_n 0, 1, 0, 0, 0, 0), (9, .iload_n 1, 1, 0, 0, 0, 0), (10, .invokevirtual 378, 3, 251, 2, 2023, 0), (13, .ifCond .ne 9, 3, 22, 0, 0, 0), (16, .aload_n 0, 1, 0, 0, 0, 0), (17, .iload_n 1, 1, 0, 0, 0, 0), (18, .invokevirtual 133, 3, 177, 2, 1873, 0), (21, .ireturn, 1, 0, 0, 0, 0), (22, .iinc 1 1, 3, 0, 0, 0, 0), (25, .goto (-23), 3, 2, 0, 0, 0), (28, .aload_n 0, 1, 0, 0, 0, 0), (29, .bipush 6, 2, 0, 0, 0, 0), (31, .invokevirtual 129, 3, 176, 2, 1748, 0), (34, .ireturn, 1, 0, 0, 0, 0)]
def x_t_X12_silent : List (Nat × x_Row) := [(0, .lconst 0, 1, 0, 0, 0, 0), (1, .lstore_n 1, 1, 0, 0, 0, 0), (2, .iconst 0, 1, 0, 0, 0, 0), (3, .istore_n 3, 1, 0, 0, 0, 0), (4, .iload_n 3, 1, 0, 0, 0, 0), (5, .aload_n 0, 1, 0, 0, 0, 0), (6, .getfield 7, 3, 11, 0, 1440, 0), (9, .iconst 0, 1, 0, 0, 0, 0), (10, .iaload, 1, 0, 0, 0, 0), (11, .if_icmp .ge 17, 3, 28, 0, 0, 0), (14, .lload_n 1, 1, 0, 0, 0, 0), (15, .aload_n 0, 1, 0, 0, 0, 0), (16, .iload_n 3, 1, 0, 0, 0, 0), (17, .invokevirtual 344, 3, 236, 2, 1965, 0), (20, .lor, 1, 0, 0, 0, 0), (21, .lstore_n 1, 1, 0, 0, 0, 0), (22, .iinc 3 1, 3, 0, 0, 0, 0), (25, .goto (-21), 3, 4, 0, 0, 0), (28, .iconst 0, 1, 0, 0, 0, 0), (29, .istore_n 3, 1, 0, 0, 0, 0), (30, .lload_n 1, 1, 0, 0, 0, 0), (31, .iload_n 3, 1, 0, 0, 0, 0), (32, .lshr, 1, 0, 0, 0, 0), (33, .lconst 1, 1, 0, 0, 0, 0), (34, .land, 1, 0, 0, 0, 0), (35, .lconst 1, 1, 0, 0, 0, 0), (36, .lcmp, 1, 0, 0, 0, 0), (37, .ifCond .ne 9, 3, 46, 0, 0, 0), (40, .iinc 3 1, 3, 0, 0, 0, 0), (43, .goto (-13), 3, 30, 0, 0, 0), (46, .aload_n 0, 1, 0, 0, 0, 0), (47, .iload_n 3, 1, 0, 0, 0, 0), (48, .invokevirtual 133, 3, 177, 2, 1873, 0), (51, .ireturn, 1, 0, 0, 0, 0)]
def x_t_X12_laysCalls : List (Nat × x_Row) := [(0, .aload_n 0, 1, 0, 0, 0, 0), (1, .iconst 0, 1, 0, 0, 0, 0), (2, .putfield 381, 3, 11, 39, 1479, 0), (5, .iconst 1, 1, 0, 0, 0, 0), (6, .istore_n 3, 1, 0, 0, 0, 0), (7, .iload_n 3, 1, 0, 0, 0, 0), (8, .iload_n 1, 1, 0, 0, 0, 0), (9, .if_icmp .gt 163, 3, 172, 0, 0, 0), (12, .iconst 0, 1, 0, 0, 0, 0), (13, .istore 4, 2, 0, 0, 0, 0), (15, .iload 4, 2, 0, 0, 0, 0), (17, .iconst 1, 1, 0, 0, 0, 0), (18, .iload_n 3, 1, 0, 0, 0, 0), (19, .ishl, 1, 0, 0, 0, 0), (20, .if_icmp .ge 146, 3, 166, 0, 0, 0), (23, .lconst 0, 1, 0, 0, 0, 0), (24, .lstore 5, 2, 0, 0, 0, 0), (26, .iconst 0, 1, 0, 0, 0, 0), (27, .istore 7, 2, 0, 0, 0, 0), (29, .iload 7, 2, 0, 0, 0, 0), (31, .iload_n 3, 1, 0, 0, 0, 0), (32, .if_icmp .ge 76, 3, 108, 0, 0, 0), (35, .iload 4, 2, 0, 0, 0, 0), (37, .iload_n 3, 1, 0, 0, 0, 0), (38, .iconst 1, 1, 0, 0, 0, 0), (39, .isub, 1, 0, 0, 0, 0), (40, .iload 7, 2, 0, 0, 0, 0), (42, .isub, 1, 0, 0, 0, 0), (43, .ishr, 1, 0, 0, 0, 0), (44, .iconst 1, 1, 0, 0, 0, 0), (45, .iand, 1, 0, 0, 0, 0), (46, .iconst 1, 1, 0, 0, 0, 0), (47, .if_icmp .ne 7, 3, 54, 0, 0, 0), (50, .iconst 1, 1, 0, 0, 0, 0), (51, .goto 4, 3, 55, 0, 0, 0), (54, .iconst 0, 1, 0, 0, 0, 0), (55, .istore 8, 2, 0, 0, 0, 0), (57, .aload_n 0, 1, 0, 0, 0, 0), (58, .getfield 7, 3, 11, 0, 1440, 0), (61, .sipush 1752, 3, 0, 0, 0, 0), (64, .iload 7, 2, 0, 0, 0, 0), (66, .iadd, 1, 0, 0, 0, 0), (67, .iload 8, 2, 0, 0, 0, 0), (69, .ifCond .eq 8, 3, 77, 0, 0, 0), (72, .bipush 115, 2, 0, 0, 0, 0), (74, .goto 5, 3, 79, 0, 0, 0), (77, .bipush 108, 2, 0, 0, 0, 0), (79, .iastore, 1, 0, 0, 0, 0), (80, .ldc2_w 384, 3, 0, 0, 2053, 32), (83, .lload 5, 2, 0, 0, 0, 0), (85, .lmul, 1, 0, 0, 0, 0), (86, .iload 8, 2, 0, 0, 0, 0), (88, .ifCond .eq 8, 3, 96, 0, 0, 0), (91, .bipush 19, 2, 0, 0, 0, 0), (93, .goto 5, 3, 98, 0, 0, 0), (96, .bipush 12, 2, 0, 0, 0, 0), (98, .i2l, 1, 0, 0, 0, 0), (99, .ladd, 1, 0, 0, 0, 0), (100, .lstore 5, 2, 0, 0, 0, 0), (102, .iinc 7 1, 3, 0, 0, 0, 0), (105, .goto (-76), 3, 29, 0, 0, 0), (108, .aload_n 0, 1, 0, 0, 0, 0), (109, .getfield 65, 3, 11, 34, 1474, 0), (112, .aload_n 0, 1, 0, 0, 0, 0), (113, .getfield 381, 3, 11, 39, 1479, 0), (116, .aload_n 0, 1, 0, 0, 0, 0), (117, .sipush 1752, 3, 0, 0, 0, 0), (120, .iload_n 3, 1, 0, 0, 0, 0), (121, .invokevirtual 326, 3, 233, 3, 1953, 0), (124, .iload_n 2, 1, 0, 0, 0, 0), (125, .invokestatic 334, 3, 235, 2, 1969, 0), (128, .lastore, 1, 0, 0, 0, 0), (129, .aload_n 0, 1, 0, 0, 0, 0), (130, .getfield 68, 3, 11, 35, 1475, 0), (133, .aload_n 0, 1, 0, 0, 0, 0), (134, .getfield 381, 3, 11, 39, 1479, 0), (137, .lload 5, 2, 0, 0, 0, 0), (139, .lastore, 1, 0, 0, 0, 0), (140, .aload_n 0, 1, 0, 0, 0, 0), (141, .getfield 74, 3, 11, 37, 1477, 0), (144, .aload_n 0, 1, 0, 0, 0, 0), (145, .getfield 381, 3, 11, 39, 1479, 0), (148, .iload_n 3, 1, 0, 0, 0, 0), (149, .iastore, 1, 0, 0, 0, 0), (150, .aload_n 0, 1, 0, 0, 0, 0), (151, .dup, 1, 0, 0, 0, 0), (152, .getfield 381, 3, 11, 39, 1479, 0), (155, .iconst 1, 1, 0, 0, 0, 0), (156, .iadd, 1, 0, 0, 0, 0), (157, .putfield 381, 3, 11, 39, 1479, 0), (160, .iinc 4 1, 3, 0, 0, 0, 0), (163, .goto (-148), 3, 15, 0, 0, 0), (166, .iinc 3 1, 3, 0, 0, 0, 0), (169, .goto (-162), 3, 7, 0, 0, 0), (172, .return_, 1, 0, 0, 0, 0)]
def x_t_X12_isCode : List (Nat × x_Row) := [(0, .iconst 0, 1, 0, 0, 0, 0), (1, .istore_n 2, 1, 0, 0, 0, 0), (2, .iload_n 2, 1, 0, 0, 0, 0), (3, .iload_n 1, 1, 0, 0, 0, 0), (4, .if_icmp .ge 118, 3, 122, 0, 0, 0), (7, .iconst 0, 1, 0, 0, 0, 0), (8, .istore_n 3, 1, 0, 0, 0, 0), (9, .iload_n 3, 1, 0, 0, 0, 0), (10, .iload_n 2, 1, 0, 0, 0, 0), (11, .if_icmp .ge 105, 3, 116, 0, 0, 0), (14, .aload_n 0, 1, 0, 0, 0, 0), (15, .getfield 65, 3, 11, 34, 1474, 0), (18, .aload_n 0, 1, 0, 0, 0, 0), (19, .getfield 77, 3, 11, 38, 1478, 0), (22, .iload_n 2, 1, 0, 0, 0, 0), (23, .iaload, 1, 0, 0, 0, 0), (24, .laload, 1, 0, 0, 0, 0), (25, .aload_n 0, 1, 0, 0, 0, 0), (26, .getfield 65, 3, 11, 34, 1474, 0), (29, .aload_n 0, 1, 0, 0, 0, 0), (30, .getfield 77, 3, 11, 38, 1478, 0), (33, .iload_n 3, 1, 0, 0, 0, 0), (34, .iaload, 1, 0, 0, 0, 0), (35, .laload, 1, 0, 0, 0, 0), (36, .lcmp, 1, 0, 0, 0, 0), (37, .ifCond .ne 5, 3, 42, 0, 0, 0), (40, .iconst 0, 1, 0, 0, 0, 0), (41, .ireturn, 1, 0, 0, 0, 0), (42, .iconst 0, 1, 0, 0, 0, 0), (43, .istore 4, 2, 0, 0, 0, 0), (45, .iload 4, 2, 0, 0, 0, 0), (47, .iload_n 1, 1, 0, 0, 0, 0), (48, .if_icmp .ge 62, 3, 110, 0, 0, 0), (51, .iload 4, 2, 0, 0, 0, 0), (53, .iload_n 2, 1, 0, 0, 0, 0), (54, .if_icmp .eq 50, 3, 104, 0, 0, 0), (57, .iload 4, 2, 0, 0, 0, 0), (59, .iload_n 3, 1, 0, 0, 0, 0), (60, .if_icmp .eq 44, 3, 104, 0, 0, 0), (63, .aload_n 0, 1, 0, 0, 0, 0), (64, .getfield 65, 3, 11, 34, 1474, 0), (67, .aload_n 0, 1, 0, 0, 0, 0), (68, .getfield 77, 3, 11, 38, 1478, 0), (71, .iload_n 2, 1, 0, 0, 0, 0), (72, .iaload, 1, 0, 0, 0, 0), (73, .laload, 1, 0, 0, 0, 0), (74, .aload_n 0, 1, 0, 0, 0, 0), (75, .getfield 65, 3, 11, 34, 1474, 0), (78, .aload_n 0, 1, 0, 0, 0, 0), (79, .getfield 77, 3, 11, 38, 1478, 0), (82, .iload_n 3, 1, 0, 0, 0, 0), (83, .iaload, 1, 0, 0, 0, 0), (84, .laload, 1, 0, 0, 0, 0), (85, .lor, 1, 0, 0, 0, 0), (86, .aload_n 0, 1, 0, 0, 0, 0), (87, .getfield 65, 3, 11, 34, 1474, 0), (90, .aload_n 0, 1, 0, 0, 0, 0), (91, .getfield 77, 3, 11, 38, 1478, 0), (94, .iload 4, 2, 0, 0, 0, 0), (96, .iaload, 1, 0, 0, 0, 0), (97, .laload, 1, 0, 0, 0, 0), (98, .lcmp, 1, 0, 0, 0, 0), (99, .ifCond .ne 5, 3, 104, 0, 0, 0), (102, .iconst 0, 1, 0, 0, 0, 0), (103, .ireturn, 1, 0, 0, 0, 0), (104, .iinc 4 1, 3, 0, 0, 0, 0), (107, .goto (-62), 3, 45, 0, 0, 0), (110, .iinc 3 1, 3, 0, 0, 0, 0), (113, .goto (-104), 3, 9, 0, 0, 0), (116, .iinc 2 1, 3, 0, 0, 0, 0), (119, .goto (-117), 3, 2, 0, 0, 0), (122, .iconst 1, 1, 0, 0, 0, 0), (123, .ireturn, 1, 0, 0, 0, 0)]
def x_t_X12_code : List (Nat × x_Row) := [(0, .iload_n 1, 1, 0, 0, 0, 0), (1, .i2l, 1, 0, 0, 0, 0), (2, .lconst 1, 1, 0, 0, 0, 0), (3, .ldc2_w 386, 3, 0, 0, 2047, 4), (6, .invokestatic 349, 3, 188, 3, 1977, 0), (9, .ifCond .eq 27, 3, 36, 0, 0, 0), (12, .iload_n 2, 1, 0, 0, 0, 0), (13, .i2l, 1, 0, 0, 0, 0), (14, .lconst 1, 1, 0, 0, 0, 0), (15, .ldc2_w 386, 3, 0, 0, 2047, 4), (18, .invokestatic 349, 3, 188, 3, 1977, 0), (21, .ifCond .eq 15, 3, 36, 0, 0, 0), (24, .iload_n 3, 1, 0, 0, 0, 0), (25, .i2l, 1, 0, 0, 0, 0), (26, .lconst 0, 1, 0, 0, 0, 0), (27, .ldc2_w 388, 3, 0, 0, 2048, 9), (30, .invokestatic 349, 3, 188, 3, 1977, 0), (33, .ifCond .ne 9, 3, 42, 0, 0, 0), (36, .aload_n 0, 1, 0, 0, 0, 0), (37, .iconst 1, 1, 0, 0, 0, 0), (38, .invokevirtual 129, 3, 176, 2, 1748, 0), (41, .ireturn, 1, 0, 0, 0, 0), (42, .aload_n 0, 1, 0, 0, 0, 0), (43, .iload_n 2, 1, 0, 0, 0, 0), (44, .iload_n 3, 1, 0, 0, 0, 0), (45, .invokevirtual 390, 3, 254, 3, 2049, 0), (48, .iconst 0, 1, 0, 0, 0, 0), (49, .istore 4, 2, 0, 0, 0, 0), (51, .aload_n 0, 1, 0, 0, 0, 0), (52, .getfield 77, 3, 11, 38, 1478, 0), (55, .iconst 0, 1, 0, 0, 0, 0), (56, .iconst (-1), 1, 0, 0, 0, 0), (57, .iastore, 1, 0, 0, 0, 0), (58, .iload 4, 2, 0, 0, 0, 0), (60, .ifCond .lt 73, 3, 133, 0, 0, 0), (63, .iload 4, 2, 0, 0, 0, 0), (65, .iload_n 1, 1, 0, 0, 0, 0), (66, .if_icmp .ge 67, 3, 133, 0, 0, 0), (69, .aload_n 0, 1, 0, 0, 0, 0), (70, .getfield 77, 3, 11, 38, 1478, 0), (73, .iload 4, 2, 0, 0, 0, 0), (75, .dup2, 1, 0, 0, 0, 0), (76, .iaload, 1, 0, 0, 0, 0), (77, .iconst 1, 1, 0, 0, 0, 0), (78, .iadd, 1, 0, 0, 0, 0), (79, .iastore, 1, 0, 0, 0, 0), (80, .aload_n 0, 1, 0, 0, 0, 0), (81, .getfield 77, 3, 11, 38, 1478, 0), (84, .iload 4, 2, 0, 0, 0, 0), (86, .iaload, 1, 0, 0, 0, 0), (87, .aload_n 0, 1, 0, 0, 0, 0), (88, .getfield 381, 3, 11, 39, 1479, 0), (91, .if_icmp .lt 9, 3, 100, 0, 0, 0), (94, .iinc 4 (-1), 3, 0, 0, 0, 0), (97, .goto (-39), 3, 58, 0, 0, 0), (100, .aload_n 0, 1, 0, 0, 0, 0), (101, .iload 4, 2, 0, 0, 0, 0), (103, .iconst 1, 1, 0, 0, 0, 0), (104, .iadd, 1, 0, 0, 0, 0), (105, .invokevirtual 394, 3, 255, 2, 2054, 0), (108, .ifCond .eq (-50), 3, 58, 0, 0, 0), (111, .aload_n 0, 1, 0, 0, 0, 0), (112, .getfield 77, 3, 11, 38, 1478, 0), (115, .iload 4, 2, 0, 0, 0, 0), (117, .iconst 1, 1, 0, 0, 0, 0), (118, .iadd, 1, 0, 0, 0, 0), (119, .aload_n 0, 1, 0, 0, 0, 0), (120, .getfield 77, 3, 11, 38, 1478, 0), (123, .iload 4, 2, 0, 0, 0, 0), (125, .iaload, 1, 0, 0, 0, 0), (126, .iastore, 1, 0, 0, 0, 0), (127, .iinc 4 1, 3, 0, 0, 0, 0), (130, .goto (-72), 3, 58, 0, 0, 0), (133, .iload 4, 2, 0, 0, 0, 0), (135, .ifCond .ge 10, 3, 145, 0, 0, 0), (138, .aload_n 0, 1, 0, 0, 0, 0), (139, .bipush 6, 2, 0, 0, 0, 0), (141, .invokevirtual 129, 3, 176, 2, 1748, 0), (144, .ireturn, 1, 0, 0, 0, 0), (145, .iconst 0, 1, 0, 0, 0, 0), (146, .istore 5, 2, 0, 0, 0, 0), (148, .iconst 0, 1, 0, 0, 0, 0), (149, .istore 6, 2, 0, 0, 0, 0), (151, .iload 6, 2, 0, 0, 0, 0), (153, .iload_n 1, 1, 0, 0, 0, 0), (154, .if_icmp .ge 45, 3, 199, 0, 0, 0), (157, .aload_n 0, 1, 0, 0, 0, 0), (158, .getfield 71, 3, 11, 36, 1476, 0), (161, .iload 6, 2, 0, 0, 0, 0), (163, .aload_n 0, 1, 0, 0, 0, 0), (164, .getfield 68, 3, 11, 35, 1475, 0), (167, .aload_n 0, 1, 0, 0, 0, 0), (168, .getfield 77, 3, 11, 38, 1478, 0), (171, .iload 6, 2, 0, 0, 0, 0), (173, .iaload, 1, 0, 0, 0, 0), (174, .laload, 1, 0, 0, 0, 0), (175, .lastore, 1, 0, 0, 0, 0), (176, .iload 5, 2, 0, 0, 0, 0), (178, .aload_n 0, 1, 0, 0, 0, 0), (179, .getfield 74, 3, 11, 37, 1477, 0), (182, .aload_n 0, 1, 0, 0, 0, 0), (183, .getfield 77, 3, 11, 38, 1478, 0), (186, .iload 6, 2, 0, 0, 0, 0), (188, .iaload, 1, 0, 0, 0, 0), (189, .iaload, 1, 0, 0, 0, 0), (190, .iadd, 1, 0, 0, 0, 0), (191, .istore 5, 2, 0, 0, 0, 0), (193, .iinc 6 1, 3, 0, 0, 0, 0), (196, .goto (-45), 3, 151, 0, 0, 0), (199, .aload_n 0, 1, 0, 0, 0, 0), (200, .iload_n 1, 1, 0, 0, 0, 0), (201, .putfield 397, 3, 11, 40, 1480, 0), (204, .aload_n 0, 1, 0, 0, 0, 0), (205, .iload 5, 2, 0, 0, 0, 0), (207, .invokevirtual 133, 3, 177, 2, 1873, 0), (210, .ireturn, 1, 0, 0, 0, 0)]
def x_t_X12_codeAt : List (Nat × x_Row) := [(0, .iload_n 1, 1, 0, 0, 0, 0), (1, .ifCond .lt 11, 3, 12, 0, 0, 0), (4, .iload_n 1, 1, 0, 0, 0, 0), (5, .aload_n 0, 1, 0, 0, 0, 0), (6, .getfield 397, 3, 11, 40, 1480, 0), (9, .if_icmp .lt 13, 3, 22, 0, 0, 0), (12, .aload_n 0, 1, 0, 0, 0, 0), (13, .bipush 6, 2, 0, 0, 0, 0), (15, .invokevirtual 129, 3, 176, 2, 1748, 0), (18, .i2l, 1, 0, 0, 0, 0), (19, .goto 13, 3, 32, 0, 0, 0), (22, .aload_n 0, 1, 0, 0, 0, 0), (23, .aload_n 0, 1, 0, 0, 0, 0), (24, .getfield 71, 3, 11, 36, 1476, 0), (27, .iload_n 1, 1, 0, 0, 0, 0), (28, .laload, 1, 0, 0, 0, 0), (29, .invokevirtual 340, 3, 179, 2, 1957, 0), (32, .lreturn, 1, 0, 0, 0, 0)]
def x_t_X12_tellsMinutes : List (Nat × x_Row) := [(0, .iconst 0, 1, 0, 0, 0, 0), (1, .istore_n 1, 1, 0, 0, 0, 0), (2, .iload_n 1, 1, 0, 0, 0, 0), (3, .bipush 6, 2, 0, 0, 0, 0), (5, .if_icmp .ge 28, 3, 33, 0, 0, 0), (8, .aload_n 0, 1, 0, 0, 0, 0), (9, .getfield 80, 3, 11, 41, 1481, 0), (12, .iload_n 1, 1, 0, 0, 0, 0), (13, .aload_n 0, 1, 0, 0, 0, 0), (14, .getfield 7, 3, 11, 0, 1440, 0), (17, .bipush 52, 2, 0, 0, 0, 0), (19, .iconst 5, 1, 0, 0, 0, 0), (20, .iload_n 1, 1, 0, 0, 0, 0), (21, .imul, 1, 0, 0, 0, 0), (22, .iadd, 1, 0, 0, 0, 0), (23, .iconst 1, 1, 0, 0, 0, 0), (24, .iadd, 1, 0, 0, 0, 0), (25, .iaload, 1, 0, 0, 0, 0), (26, .iastore, 1, 0, 0, 0, 0), (27, .iinc 1 1, 3, 0, 0, 0, 0), (30, .goto (-28), 3, 2, 0, 0, 0), (33, .iconst 0, 1, 0, 0, 0, 0), (34, .istore_n 1, 1, 0, 0, 0, 0), (35, .iload_n 1, 1, 0, 0, 0, 0), (36, .bipush 6, 2, 0, 0, 0, 0), (38, .if_icmp .ge 29, 3, 67, 0, 0, 0), (41, .aload_n 0, 1, 0, 0, 0, 0), (42, .getfield 80, 3, 11, 41, 1481, 0), (45, .bipush 6, 2, 0, 0, 0, 0), (47, .iload_n 1, 1, 0, 0, 0, 0), (48, .iadd, 1, 0, 0, 0, 0), (49, .aload_n 0, 1, 0, 0, 0, 0), (50, .getfield 7, 3, 11, 0, 1440, 0), (53, .bipush 82, 2, 0, 0, 0, 0), (55, .iconst 3, 1, 0, 0, 0, 0), (56, .iload_n 1, 1, 0, 0, 0, 0), (57, .imul, 1, 0, 0, 0, 0), (58, .iadd, 1, 0, 0, 0, 0), (59, .iaload, 1, 0, 0, 0, 0), (60, .iastore, 1, 0, 0, 0, 0), (61, .iinc 1 1, 3, 0, 0, 0, 0), (64, .goto (-29), 3, 35, 0, 0, 0), (67, .return_, 1, 0, 0, 0, 0)]
def x_t_X12_orders : List (Nat × x_Row) := [(0, .aload_n 0, 1, 0, 0, 0, 0), (1, .iconst 0, 1, 0, 0, 0, 0), (2, .putfield 400, 3, 11, 44, 1484, 0), (5, .aload_n 0, 1, 0, 0, 0, 0), (6, .iconst 0, 1, 0, 0, 0, 0), (7, .putfield 403, 3, 11, 45, 1485, 0), (10, .iconst 0, 1, 0, 0, 0, 0), (11, .istore_n 2, 1, 0, 0, 0, 0), (12, .iload_n 2, 1, 0, 0, 0, 0), (13, .aload_n 0, 1, 0, 0, 0, 0), (14, .getfield 7, 3, 11, 0, 1440, 0), (17, .iconst 1, 1, 0, 0, 0, 0), (18, .iaload, 1, 0, 0, 0, 0), (19, .if_icmp .ge 89, 3, 108, 0, 0, 0), (22, .iload_n 1, 1, 0, 0, 0, 0), (23, .iload_n 2, 1, 0, 0, 0, 0), (24, .ishr, 1, 0, 0, 0, 0), (25, .iconst 1, 1, 0, 0, 0, 0), (26, .iand, 1, 0, 0, 0, 0), (27, .iconst 1, 1, 0, 0, 0, 0), (28, .if_icmp .ne 6, 3, 34, 0, 0, 0), (31, .goto 71, 3, 102, 0, 0, 0), (34, .aload_n 0, 1, 0, 0, 0, 0), (35, .getfield 400, 3, 11, 44, 1484, 0), (38, .istore_n 3, 1, 0, 0, 0, 0), (39, .iload_n 3, 1, 0, 0, 0, 0), (40, .ifCond .le 45, 3, 85, 0, 0, 0), (43, .aload_n 0, 1, 0, 0, 0, 0), (44, .getfield 80, 3, 11, 41, 1481, 0), (47, .aload_n 0, 1, 0, 0, 0, 0), (48, .getfield 83, 3, 11, 42, 1482, 0), (51, .iload_n 3, 1, 0, 0, 0, 0), (52, .iconst 1, 1, 0, 0, 0, 0), (53, .isub, 1, 0, 0, 0, 0), (54, .iaload, 1, 0, 0, 0, 0), (55, .iaload, 1, 0, 0, 0, 0), (56, .aload_n 0, 1, 0, 0, 0, 0), (57, .getfield 80, 3, 11, 41, 1481, 0), (60, .iload_n 2, 1, 0, 0, 0, 0), (61, .iaload, 1, 0, 0, 0, 0), (62, .if_icmp .le 23, 3, 85, 0, 0, 0), (65, .aload_n 0, 1, 0, 0, 0, 0), (66, .getfield 83, 3, 11, 42, 1482, 0), (69, .iload_n 3, 1, 0, 0, 0, 0), (70, .aload_n 0, 1, 0, 0, 0, 0), (71, .getfield 83, 3, 11, 42, 1482, 0), (74, .iload_n 3, 1, 0, 0, 0, 0), (75, .iconst 1, 1, 0, 0, 0, 0), (76, .isub, 1, 0, 0, 0, 0), (77, .iaload, 1, 0, 0, 0, 0), (78, .iastore, 1, 0, 0, 0, 0), (79, .iinc 3 (-1), 3, 0, 0, 0, 0), (82, .goto (-43), 3, 39, 0, 0, 0), (85, .aload_n 0, 1, 0, 0, 0, 0), (86, .getfield 83, 3, 11, 42, 1482, 0), (89, .iload_n 3, 1, 0, 0, 0, 0), (90, .iload_n 2, 1, 0, 0, 0, 0), (91, .iastore, 1, 0, 0, 0, 0), (92, .aload_n 0, 1, 0, 0, 0, 0), (93, .dup, 1, 0, 0, 0, 0), (94, .getfield 400, 3, 11, 44, 1484, 0), (97, .iconst 1, 1, 0, 0, 0, 0), (98, .iadd, 1, 0, 0, 0, 0), (99, .putfield 400, 3, 11, 44, 1484, 0), (102, .iinc 2 1, 3, 0, 0, 0, 0), (105, .goto (-93), 3, 12, 0, 0, 0), (108, .iconst 0, 1, 0, 0, 0, 0), (109, .istore_n 2, 1, 0, 0, 0, 0), (110, .iload_n 2, 1, 0, 0, 0, 0), (111, .aload_n 0, 1, 0, 0, 0, 0), (112, .getfield 7, 3, 11, 0, 1440, 0), (115, .iconst 2, 1, 0, 0, 0, 0), (116, .iaload, 1, 0, 0, 0, 0), (117, .if_icmp .ge 94, 3, 211, 0, 0, 0), (120, .iload_n 2, 1, 0, 0, 0, 0), (121, .aload_n 0, 1, 0, 0, 0, 0), (122, .getfield 89, 3, 11, 46, 1486, 0), (125, .if_icmp .ne 6, 3, 131, 0, 0, 0), (128, .goto 77, 3, 205, 0, 0, 0), (131, .aload_n 0, 1, 0, 0, 0, 0), (132, .getfield 403, 3, 11, 45, 1485, 0), (135, .istore_n 3, 1, 0, 0, 0, 0), (136, .iload_n 3, 1, 0, 0, 0, 0), (137, .ifCond .le 51, 3, 188, 0, 0, 0), (140, .aload_n 0, 1, 0, 0, 0, 0), (141, .getfield 80, 3, 11, 41, 1481, 0), (144, .bipush 6, 2, 0, 0, 0, 0), (146, .aload_n 0, 1, 0, 0, 0, 0), (147, .getfield 86, 3, 11, 43, 1483, 0), (150, .iload_n 3, 1, 0, 0, 0, 0), (151, .iconst 1, 1, 0, 0, 0, 0), (152, .isub, 1, 0, 0, 0, 0), (153, .iaload, 1, 0, 0, 0, 0), (154, .iadd, 1, 0, 0, 0, 0), (155, .iaload, 1, 0, 0, 0, 0), (156, .aload_n 0, 1, 0, 0, 0, 0), (157, .getfield 80, 3, 11, 41, 1481, 0), (160, .bipush 6, 2, 0, 0, 0, 0), (162, .iload_n 2, 1, 0, 0, 0, 0), (163, .iadd, 1, 0, 0, 0, 0), (164, .iaload, 1, 0, 0, 0, 0), (165, .if_icmp .le 23, 3, 188, 0, 0, 0), (168, .aload_n 0, 1, 0, 0, 0, 0), (169, .getfield 86, 3, 11, 43, 1483, 0), (172, .iload_n 3, 1, 0, 0, 0, 0), (173, .aload_n 0, 1, 0, 0, 0, 0), (174, .getfield 86, 3, 11, 43, 1483, 0), (177, .iload_n 3, 1, 0, 0, 0, 0), (178, .iconst 1, 1, 0, 0, 0, 0), (179, .isub, 1, 0, 0, 0, 0), (180, .iaload, 1, 0, 0, 0, 0), (181, .iastore, 1, 0, 0, 0, 0), (182, .iinc 3 (-1), 3, 0, 0, 0, 0), (185, .goto (-49), 3, 136, 0, 0, 0), (188, .aload_n 0, 1, 0, 0, 0, 0), (189, .getfield 86, 3, 11, 43, 1483, 0), (192, .iload_n 3, 1, 0, 0, 0, 0), (193, .iload_n 2, 1, 0, 0, 0, 0), (194, .iastore, 1, 0, 0, 0, 0), (195, .aload_n 0, 1, 0, 0, 0, 0), (196, .dup, 1, 0, 0, 0, 0), (197, .getfield 403, 3, 11, 45, 1485, 0), (200, .iconst 1, 1, 0, 0, 0, 0), (201, .iadd, 1, 0, 0, 0, 0), (202, .putfield 403, 3, 11, 45, 1485, 0), (205, .iinc 2 1, 3, 0, 0, 0, 0), (208, .goto (-98), 3, 110, 0, 0, 0), (211, .return_, 1, 0, 0, 0, 0)]
def x_t_X12_nextShip : List (Nat × x_Row) := [(0, .aload_n 0, 1, 0, 0, 0, 0), (1, .invokevirtual 406, 3, 258, 1, 2066, 0), (4, .aload_n 0, 1, 0, 0, 0, 0), (5, .iconst 0, 1, 0, 0, 0, 0), (6, .invokevirtual 409, 3, 259, 2, 2070, 0), (9, .iload_n 1, 1, 0, 0, 0, 0), (10, .ifCond .lt 11, 3, 21, 0, 0, 0), (13, .iload_n 1, 1, 0, 0, 0, 0), (14, .aload_n 0, 1, 0, 0, 0, 0), (15, .getfield 400, 3, 11, 44, 1484, 0), (18, .if_icmp .lt 12, 3, 30, 0, 0, 0), (21, .aload_n 0, 1, 0, 0, 0, 0), (22, .bipush 6, 2, 0, 0, 0, 0), (24, .invokevirtual 129, 3, 176, 2, 1748, 0), (27, .goto 13, 3, 40, 0, 0, 0), (30, .aload_n 0, 1, 0, 0, 0, 0), (31, .aload_n 0, 1, 0, 0, 0, 0), (32, .getfield 83, 3, 11, 42, 1482, 0), (35, .iload_n 1, 1, 0, 0, 0, 0), (36, .iaload, 1, 0, 0, 0, 0), (37, .invokevirtual 133, 3, 177, 2, 1873, 0), (40, .ireturn, 1, 0, 0, 0, 0)]
def x_t_X12_nextCart : List (Nat × x_Row) := [(0, .aload_n 0, 1, 0, 0, 0, 0), (1, .invokevirtual 406, 3, 258, 1, 2066, 0), (4, .aload_n 0, 1, 0, 0, 0, 0), (5, .iconst 0, 1, 0, 0, 0, 0), (6, .invokevirtual 409, 3, 259, 2, 2070, 0), (9, .iload_n 1, 1, 0, 0, 0, 0), (10, .ifCond .lt 11, 3, 21, 0, 0, 0), (13, .iload_n 1, 1, 0, 0, 0, 0), (14, .aload_n 0, 1, 0, 0, 0, 0), (15, .getfield 403, 3, 11, 45, 1485, 0), (18, .if_icmp .lt 12, 3, 30, 0, 0, 0), (21, .aload_n 0, 1, 0, 0, 0, 0), (22, .bipush 6, 2, 0, 0, 0, 0), (24, .invokevirtual 129, 3, 176, 2, 1748, 0), (27, .goto 13, 3, 40, 0, 0, 0), (30, .aload_n 0, 1, 0, 0, 0, 0), (31, .aload_n 0, 1, 0, 0, 0, 0), (32, .getfield 86, 3, 11, 43, 1483, 0), (35, .iload_n 1, 1, 0, 0, 0, 0), (36, .iaload, 1, 0, 0, 0, 0), (37, .invokevirtual 133, 3, 177, 2, 1873, 0), (40, .ireturn, 1, 0, 0, 0, 0)]
def x_t_X12_ofShip : List (Nat × x_Row) := [(0, .aload_n 0, 1, 0, 0, 0, 0), (1, .getfield 7, 3, 11, 0, 1440, 0), (4, .bipush 52, 2, 0, 0, 0, 0), (6, .iconst 5, 1, 0, 0, 0, 0), (7, .iload_n 1, 1, 0, 0, 0, 0), (8, .imul, 1, 0, 0, 0, 0), (9, .iadd, 1, 0, 0, 0, 0), (10, .iload_n 2, 1, 0, 0, 0, 0), (11, .iadd, 1, 0, 0, 0, 0), (12, .iaload, 1, 0, 0, 0, 0), (13, .ireturn, 1, 0, 0, 0, 0)]
def x_t_X12_ofCart : List (Nat × x_Row) := [(0, .aload_n 0, 1, 0, 0, 0, 0), (1, .getfield 7, 3, 11, 0, 1440, 0), (4, .bipush 82, 2, 0, 0, 0, 0), (6, .iconst 3, 1, 0, 0, 0, 0), (7, .iload_n 1, 1, 0, 0, 0, 0), (8, .imul, 1, 0, 0, 0, 0), (9, .iadd, 1, 0, 0, 0, 0), (10, .iload_n 2, 1, 0, 0, 0, 0), (11, .iadd, 1, 0, 0, 0, 0), (12, .iaload, 1, 0, 0, 0, 0), (13, .ireturn, 1, 0, 0, 0, 0)]
def x_t_X12_turnTime : List (Nat × x_Row) := [(0, .iload_n 2, 1, 0, 0, 0, 0), (1, .aload_n 0, 1, 0, 0, 0, 0), (2, .getfield 7, 3, 11, 0, 1440, 0), (5, .iconst 5, 1, 0, 0, 0, 0), (6, .iaload, 1, 0, 0, 0, 0), (7, .ifCond .le 23, 3, 30, 0, 0, 0), (10, .iload_n 1, 1, 0, 0, 0, 0), (11, .aload_n 0, 1, 0, 0, 0, 0), (12, .getfield 7, 3, 11, 0, 1440, 0), (15, .bipush 6, 2, 0, 0, 0, 0), (17, .iaload, 1, 0, 0, 0, 0), (18, .if_icmp .lt 12, 3, 30, 0, 0, 0), (21, .aload_n 0, 1, 0, 0, 0, 0), (22, .getfield 7, 3, 11, 0, 1440, 0), (25, .iconst 5, 1, 0, 0, 0, 0), (26, .iaload, 1, 0, 0, 0, 0), (27, .goto 4, 3, 31, 0, 0, 0), (30, .iconst 0, 1, 0, 0, 0, 0), (31, .iadd, 1, 0, 0, 0, 0), (32, .ireturn, 1, 0, 0, 0, 0)]
def x_t_X12_stateOf : List (Nat × x_Row) := [(0, .iconst 2, 1, 0, 0, 0, 0), (1, .iload_n 0, 1, 0, 0, 0, 0), (2, .imul, 1, 0, 0, 0, 0), (3, .iload_n 1, 1, 0, 0, 0, 0), (4, .iadd, 1, 0, 0, 0, 0), (5, .bipush 7, 2, 0, 0, 0, 0), (7, .imul, 1, 0, 0, 0, 0), (8, .iload_n 2, 1, 0, 0, 0, 0), (9, .iadd, 1, 0, 0, 0, 0), (10, .bipush 7, 2, 0, 0, 0, 0), (12, .imul, 1, 0, 0, 0, 0), (13, .iload_n 3, 1, 0, 0, 0, 0), (14, .iadd, 1, 0, 0, 0, 0), (15, .ireturn, 1, 0, 0, 0, 0)]
def x_t_X12_leftAt : List (Nat × x_Row) := [(0, .iload_n 3, 1, 0, 0, 0, 0), (1, .aload_n 0, 1, 0, 0, 0, 0), (2, .getfield 400, 3, 11, 44, 1484, 0), (5, .if_icmp .ne 14, 3, 19, 0, 0, 0), (8, .iload 4, 2, 0, 0, 0, 0), (10, .aload_n 0, 1, 0, 0, 0, 0), (11, .getfield 403, 3, 11, 45, 1485, 0), (14, .if_icmp .ne 5, 3, 19, 0, 0, 0), (17, .iconst 0, 1, 0, 0, 0, 0), (18, .ireturn, 1, 0, 0, 0, 0), (19, .iload_n 1, 1, 0, 0, 0, 0), (20, .sipush 240, 3, 0, 0, 0, 0), (23, .if_icmp .le 9, 3, 32, 0, 0, 0), (26, .ldc_w 412, 3, 0, 0, 2094, 1000000000), (29, .goto 16, 3, 45, 0, 0, 0), (32, .aload_n 0, 1, 0, 0, 0, 0), (33, .getfield 92, 3, 11, 47, 1487, 0), (36, .iload_n 1, 1, 0, 0, 0, 0), (37, .iload_n 2, 1, 0, 0, 0, 0), (38, .iload_n 3, 1, 0, 0, 0, 0), (39, .iload 4, 2, 0, 0, 0, 0), (41, .invokestatic 413, 3, 265, 4, 2095, 0), (44, .iaload, 1, 0, 0, 0, 0), (45, .ireturn, 1, 0, 0, 0, 0)]
def x_t_X12_mayShip : List (Nat × x_Row) := [(0, .iload_n 2, 1, 0, 0, 0, 0), (1, .ifCond .eq 26, 3, 27, 0, 0, 0), (4, .iload_n 3, 1, 0, 0, 0, 0), (5, .aload_n 0, 1, 0, 0, 0, 0), (6, .getfield 400, 3, 11, 44, 1484, 0), (9, .if_icmp .eq 18, 3, 27, 0, 0, 0), (12, .aload_n 0, 1, 0, 0, 0, 0), (13, .getfield 80, 3, 11, 41, 1481, 0), (16, .aload_n 0, 1, 0, 0, 0, 0), (17, .getfield 83, 3, 11, 42, 1482, 0), (20, .iload_n 3, 1, 0, 0, 0, 0), (21, .iaload, 1, 0, 0, 0, 0), (22, .iaload, 1, 0, 0, 0, 0), (23, .iload_n 1, 1, 0, 0, 0, 0), (24, .if_icmp .le 5, 3, 29, 0, 0, 0), (27, .iconst 0, 1, 0, 0, 0, 0), (28, .ireturn, 1, 0, 0, 0, 0), (29, .aload_n 0, 1, 0, 0, 0, 0), (30, .aload_n 0, 1, 0, 0, 0, 0), (31, .getfield 83, 3, 11, 42, 1482, 0), (34, .iload_n 3, 1, 0, 0, 0, 0), (35, .iaload, 1, 0, 0, 0, 0), (36, .iconst 4, 1, 0, 0, 0, 0), (37, .invokevirtual 417, 3, 262, 3, 2106, 0), (40, .ifCond .eq 18, 3, 58, 0, 0, 0), (43, .aload_n 0, 1, 0, 0, 0, 0), (44, .getfield 80, 3, 11, 41, 1481, 0), (47, .aload_n 0, 1, 0, 0, 0, 0), (48, .getfield 83, 3, 11, 42, 1482, 0), (51, .iload_n 3, 1, 0, 0, 0, 0), (52, .iaload, 1, 0, 0, 0, 0), (53, .iaload, 1, 0, 0, 0, 0), (54, .iload_n 1, 1, 0, 0, 0, 0), (55, .if_icmp .ne 7, 3, 62, 0, 0, 0), (58, .iconst 1, 1, 0, 0, 0, 0), (59, .goto 4, 3, 63, 0, 0, 0), (62, .iconst 0, 1, 0, 0, 0, 0), (63, .ireturn, 1, 0, 0, 0, 0)]
def x_t_X12_mayCart : List (Nat × x_Row) := [(0, .iload_n 2, 1, 0, 0, 0, 0), (1, .ifCond .ne 33, 3, 34, 0, 0, 0), (4, .iload_n 3, 1, 0, 0, 0, 0), (5, .aload_n 0, 1, 0, 0, 0, 0), (6, .getfield 403, 3, 11, 45, 1485, 0), (9, .if_icmp .ge 25, 3, 34, 0, 0, 0), (12, .aload_n 0, 1, 0, 0, 0, 0), (13, .getfield 80, 3, 11, 41, 1481, 0), (16, .bipush 6, 2, 0, 0, 0, 0), (18, .aload_n 0, 1, 0, 0, 0, 0), (19, .getfield 86, 3, 11, 43, 1483, 0), (22, .iload_n 3, 1, 0, 0, 0, 0), (23, .iaload, 1, 0, 0, 0, 0), (24, .iadd, 1, 0, 0, 0, 0), (25, .iaload, 1, 0, 0, 0, 0), (26, .iload_n 1, 1, 0, 0, 0, 0), (27, .if_icmp .gt 7, 3, 34, 0, 0, 0), (30, .iconst 1, 1, 0, 0, 0, 0), (31, .goto 4, 3, 35, 0, 0, 0), (34, .iconst 0, 1, 0, 0, 0, 0), (35, .ireturn, 1, 0, 0, 0, 0)]
def x_t_X12_byShip : List (Nat × x_Row) := [(0, .aload_n 0, 1, 0, 0, 0, 0), (1, .getfield 83, 3, 11, 42, 1482, 0), (4, .iload_n 2, 1, 0, 0, 0, 0), (5, .iaload, 1, 0, 0, 0, 0), (6, .istore 4, 2, 0, 0, 0, 0), (8, .iload_n 1, 1, 0, 0, 0, 0), (9, .aload_n 0, 1, 0, 0, 0, 0), (10, .getfield 80, 3, 11, 41, 1481, 0), (13, .iload 4, 2, 0, 0, 0, 0), (15, .iaload, 1, 0, 0, 0, 0), (16, .isub, 1, 0, 0, 0, 0), (17, .aload_n 0, 1, 0, 0, 0, 0), (18, .iload 4, 2, 0, 0, 0, 0), (20, .iconst 3, 1, 0, 0, 0, 0), (21, .invokevirtual 417, 3, 262, 3, 2106, 0), (24, .imul, 1, 0, 0, 0, 0), (25, .aload_n 0, 1, 0, 0, 0, 0), (26, .iload_n 1, 1, 0, 0, 0, 0), (27, .aload_n 0, 1, 0, 0, 0, 0), (28, .iload 4, 2, 0, 0, 0, 0), (30, .iconst 2, 1, 0, 0, 0, 0), (31, .invokevirtual 417, 3, 262, 3, 2106, 0), (34, .iadd, 1, 0, 0, 0, 0), (35, .iconst 1, 1, 0, 0, 0, 0), (36, .iload_n 2, 1, 0, 0, 0, 0), (37, .iconst 1, 1, 0, 0, 0, 0), (38, .iadd, 1, 0, 0, 0, 0), (39, .iload_n 3, 1, 0, 0, 0, 0), (40, .invokevirtual 420, 3, 266, 5, 2090, 0), (43, .iadd, 1, 0, 0, 0, 0), (44, .ireturn, 1, 0, 0, 0, 0)]
def x_t_X12_byCart : List (Nat × x_Row) := [(0, .aload_n 0, 1, 0, 0, 0, 0), (1, .getfield 86, 3, 11, 43, 1483, 0), (4, .iload_n 3, 1, 0, 0, 0, 0), (5, .iaload, 1, 0, 0, 0, 0), (6, .istore 4, 2, 0, 0, 0, 0), (8, .iload_n 1, 1, 0, 0, 0, 0), (9, .aload_n 0, 1, 0, 0, 0, 0), (10, .getfield 80, 3, 11, 41, 1481, 0), (13, .bipush 6, 2, 0, 0, 0, 0), (15, .iload 4, 2, 0, 0, 0, 0), (17, .iadd, 1, 0, 0, 0, 0), (18, .iaload, 1, 0, 0, 0, 0), (19, .isub, 1, 0, 0, 0, 0), (20, .aload_n 0, 1, 0, 0, 0, 0), (21, .iload 4, 2, 0, 0, 0, 0), (23, .iconst 2, 1, 0, 0, 0, 0), (24, .invokevirtual 423, 3, 263, 3, 2122, 0), (27, .imul, 1, 0, 0, 0, 0), (28, .aload_n 0, 1, 0, 0, 0, 0), (29, .iload_n 1, 1, 0, 0, 0, 0), (30, .aload_n 0, 1, 0, 0, 0, 0), (31, .iload 4, 2, 0, 0, 0, 0), (33, .iconst 1, 1, 0, 0, 0, 0), (34, .invokevirtual 423, 3, 263, 3, 2122, 0), (37, .iadd, 1, 0, 0, 0, 0), (38, .iconst 0, 1, 0, 0, 0, 0), (39, .iload_n 2, 1, 0, 0, 0, 0), (40, .iload_n 3, 1, 0, 0, 0, 0), (41, .iconst 1, 1, 0, 0, 0, 0), (42, .iadd, 1, 0, 0, 0, 0), (43, .invokevirtual 420, 3, 266, 5, 2090, 0), (46, .iadd, 1, 0, 0, 0, 0), (47, .ireturn, 1, 0, 0, 0, 0)]
def x_t_X12_reckons : List (Nat × x_Row) := [(0, .sipush 240, 3, 0, 0, 0, 0), (3, .istore_n 1, 1, 0, 0, 0, 0), (4, .iload_n 1, 1, 0, 0, 0, 0), (5, .ifCond .lt 171, 3, 176, 0, 0, 0), (8, .iconst 0, 1, 0, 0, 0, 0), (9, .istore_n 2, 1, 0, 0, 0, 0), (10, .iload_n 2, 1, 0, 0, 0, 0), (11, .iconst 2, 1, 0, 0, 0, 0), (12, .if_icmp .ge 158, 3, 170, 0, 0, 0), (15, .aload_n 0, 1, 0, 0, 0, 0), (16, .getfield 400, 3, 11, 44, 1484, 0), (19, .istore_n 3, 1, 0, 0, 0, 0), (20, .iload_n 3, 1, 0, 0, 0, 0), (21, .ifCond .lt 143, 3, 164, 0, 0, 0), (24, .aload_n 0, 1, 0, 0, 0, 0), (25, .getfield 403, 3, 11, 45, 1485, 0), (28, .istore 4, 2, 0, 0, 0, 0), (30, .iload 4, 2, 0, 0, 0, 0), (32, .ifCond .lt 126, 3, 158, 0, 0, 0), (35, .aload_n 0, 1, 0, 0, 0, 0), (36, .iload_n 1, 1, 0, 0, 0, 0), (37, .iconst 1, 1, 0, 0, 0, 0), (38, .iadd, 1, 0, 0, 0, 0), (39, .iload_n 2, 1, 0, 0, 0, 0), (40, .iload_n 3, 1, 0, 0, 0, 0), (41, .iload 4, 2, 0, 0, 0, 0), (43, .invokevirtual 420, 3, 266, 5, 2090, 0), (46, .aload_n 0, 1, 0, 0, 0, 0), (47, .iload_n 1, 1, 0, 0, 0, 0), (48, .aload_n 0, 1, 0, 0, 0, 0), (49, .iload_n 1, 1, 0, 0, 0, 0), (50, .aload_n 0, 1, 0, 0, 0, 0), (51, .getfield 426, 3, 11, 48, 1488, 0), (54, .invokevirtual 429, 3, 264, 3, 2098, 0), (57, .iadd, 1, 0, 0, 0, 0), (58, .iconst 1, 1, 0, 0, 0, 0), (59, .iload_n 2, 1, 0, 0, 0, 0), (60, .isub, 1, 0, 0, 0, 0), (61, .iload_n 3, 1, 0, 0, 0, 0), (62, .iload 4, 2, 0, 0, 0, 0), (64, .invokevirtual 420, 3, 266, 5, 2090, 0), (67, .invokestatic 185, 3, 1003, 0, 1747, 0), (70, .istore 5, 2, 0, 0, 0, 0), (72, .aload_n 0, 1, 0, 0, 0, 0), (73, .iload_n 1, 1, 0, 0, 0, 0), (74, .iload_n 2, 1, 0, 0, 0, 0), (75, .iload_n 3, 1, 0, 0, 0, 0), (76, .invokevirtual 432, 3, 267, 4, 2102, 0), (79, .ifCond .eq 18, 3, 97, 0, 0, 0), (82, .iload 5, 2, 0, 0, 0, 0), (84, .aload_n 0, 1, 0, 0, 0, 0), (85, .iload_n 1, 1, 0, 0, 0, 0), (86, .iload_n 3, 1, 0, 0, 0, 0), (87, .iload 4, 2, 0, 0, 0, 0), (89, .invokevirtual 435, 3, 269, 4, 2110, 0), (92, .invokestatic 185, 3, 1003, 0, 1747, 0), (95, .istore 5, 2, 0, 0, 0, 0), (97, .aload_n 0, 1, 0, 0, 0, 0), (98, .iload_n 1, 1, 0, 0, 0, 0), (99, .iload_n 2, 1, 0, 0, 0, 0), (100, .iload 4, 2, 0, 0, 0, 0), (102, .invokevirtual 439, 3, 268, 4, 2114, 0), (105, .ifCond .eq 18, 3, 123, 0, 0, 0), (108, .iload 5, 2, 0, 0, 0, 0), (110, .aload_n 0, 1, 0, 0, 0, 0), (111, .iload_n 1, 1, 0, 0, 0, 0), (112, .iload_n 3, 1, 0, 0, 0, 0), (113, .iload 4, 2, 0, 0, 0, 0), (115, .invokevirtual 442, 3, 270, 4, 2118, 0), (118, .invokestatic 185, 3, 1003, 0, 1747, 0), (121, .istore 5, 2, 0, 0, 0, 0), (123, .aload_n 0, 1, 0, 0, 0, 0), (124, .getfield 92, 3, 11, 47, 1487, 0), (127, .iload_n 1, 1, 0, 0, 0, 0), (128, .iload_n 2, 1, 0, 0, 0, 0), (129, .iload_n 3, 1, 0, 0, 0, 0), (130, .iload 4, 2, 0, 0, 0, 0), (132, .invokestatic 413, 3, 265, 4, 2095, 0), (135, .iload 5, 2, 0, 0, 0, 0), (137, .ldc_w 412, 3, 0, 0, 2094, 1000000000), (140, .if_icmp .ge 8, 3, 148, 0, 0, 0), (143, .iload 5, 2, 0, 0, 0, 0), (145, .goto 6, 3, 151, 0, 0, 0), (148, .ldc_w 412, 3, 0, 0, 2094, 1000000000), (151, .iastore, 1, 0, 0, 0, 0), (152, .iinc 4 (-1), 3, 0, 0, 0, 0), (155, .goto (-125), 3, 30, 0, 0, 0), (158, .iinc 3 (-1), 3, 0, 0, 0, 0), (161, .goto (-141), 3, 20, 0, 0, 0), (164, .iinc 2 1, 3, 0, 0, 0, 0), (167, .goto (-157), 3, 10, 0, 0, 0), (170, .iinc 1 (-1), 3, 0, 0, 0, 0), (173, .goto (-169), 3, 4, 0, 0, 0), (176, .aload_n 0, 1, 0, 0, 0, 0), (177, .iconst 0, 1, 0, 0, 0, 0), (178, .iconst 0, 1, 0, 0, 0, 0), (179, .iconst 0, 1, 0, 0, 0, 0), (180, .iconst 0, 1, 0, 0, 0, 0), (181, .invokevirtual 420, 3, 266, 5, 2090, 0), (184, .istore_n 1, 1, 0, 0, 0, 0), (185, .iload_n 1, 1, 0, 0, 0, 0), (186, .ldc_w 412, 3, 0, 0, 2094, 1000000000), (189, .if_icmp .ge 7, 3, 196, 0, 0, 0), (192, .iload_n 1, 1, 0, 0, 0, 0), (193, .goto 4, 3, 197, 0, 0, 0), (196, .iconst (-1), 1, 0, 0, 0, 0), (197, .ireturn, 1, 0, 0, 0, 0)]
def x_t_X12_leastBy : List (Nat × x_Row) := [(0, .aload_n 0, 1, 0, 0, 0, 0), (1, .invokevirtual 406, 3, 258, 1, 2066, 0), (4, .aload_n 0, 1, 0, 0, 0, 0), (5, .iload_n 1, 1, 0, 0, 0, 0), (6, .invokevirtual 409, 3, 259, 2, 2070, 0), (9, .aload_n 0, 1, 0, 0, 0, 0), (10, .iload_n 2, 1, 0, 0, 0, 0), (11, .putfield 426, 3, 11, 48, 1488, 0), (14, .aload_n 0, 1, 0, 0, 0, 0), (15, .invokevirtual 445, 3, 271, 1, 2086, 0), (18, .ireturn, 1, 0, 0, 0, 0)]
def x_t_X12_least : List (Nat × x_Row) := [(0, .aload_n 0, 1, 0, 0, 0, 0), (1, .aload_n 0, 1, 0, 0, 0, 0), (2, .iconst 0, 1, 0, 0, 0, 0), (3, .aload_n 0, 1, 0, 0, 0, 0), (4, .getfield 7, 3, 11, 0, 1440, 0), (7, .iconst 4, 1, 0, 0, 0, 0), (8, .iaload, 1, 0, 0, 0, 0), (9, .invokevirtual 448, 3, 272, 3, 2082, 0), (12, .invokevirtual 371, 3, 178, 2, 2007, 0), (15, .ireturn, 1, 0, 0, 0, 0)]
def x_t_X12_acts : List (Nat × x_Row) := [(0, .aload_n 0, 1, 0, 0, 0, 0), (1, .getfield 95, 3, 11, 49, 1489, 0), (4, .aload_n 0, 1, 0, 0, 0, 0), (5, .getfield 451, 3, 11, 55, 1495, 0), (8, .iload_n 1, 1, 0, 0, 0, 0), (9, .iastore, 1, 0, 0, 0, 0), (10, .aload_n 0, 1, 0, 0, 0, 0), (11, .getfield 98, 3, 11, 50, 1490, 0), (14, .aload_n 0, 1, 0, 0, 0, 0), (15, .getfield 451, 3, 11, 55, 1495, 0), (18, .iload_n 2, 1, 0, 0, 0, 0), (19, .iastore, 1, 0, 0, 0, 0), (20, .aload_n 0, 1, 0, 0, 0, 0), (21, .getfield 101, 3, 11, 51, 1491, 0), (24, .aload_n 0, 1, 0, 0, 0, 0), (25, .getfield 451, 3, 11, 55, 1495, 0), (28, .iload_n 3, 1, 0, 0, 0, 0), (29, .iastore, 1, 0, 0, 0, 0), (30, .aload_n 0, 1, 0, 0, 0, 0), (31, .dup, 1, 0, 0, 0, 0), (32, .getfield 451, 3, 11, 55, 1495, 0), (35, .iconst 1, 1, 0, 0, 0, 0), (36, .iadd, 1, 0, 0, 0, 0), (37, .putfield 451, 3, 11, 55, 1495, 0), (40, .return_, 1, 0, 0, 0, 0)]
def x_t_X12_plans : List (Nat × x_Row) := [(0, .aload_n 0, 1, 0, 0, 0, 0), (1, .iconst 0, 1, 0, 0, 0, 0), (2, .aload_n 0, 1, 0, 0, 0, 0), (3, .getfield 7, 3, 11, 0, 1440, 0), (6, .iconst 4, 1, 0, 0, 0, 0), (7, .iaload, 1, 0, 0, 0, 0), (8, .invokevirtual 448, 3, 272, 3, 2082, 0), (11, .iconst (-1), 1, 0, 0, 0, 0), (12, .if_icmp .ne 5, 3, 17, 0, 0, 0), (15, .iconst 0, 1, 0, 0, 0, 0), (16, .ireturn, 1, 0, 0, 0, 0), (17, .aload_n 0, 1, 0, 0, 0, 0), (18, .iconst 0, 1, 0, 0, 0, 0), (19, .putfield 451, 3, 11, 55, 1495, 0), (22, .aload_n 0, 1, 0, 0, 0, 0), (23, .iconst 0, 1, 0, 0, 0, 0), (24, .putfield 454, 3, 11, 57, 1497, 0), (27, .iconst 0, 1, 0, 0, 0, 0), (28, .istore_n 1, 1, 0, 0, 0, 0), (29, .iconst 0, 1, 0, 0, 0, 0), (30, .istore_n 2, 1, 0, 0, 0, 0), (31, .iconst 0, 1, 0, 0, 0, 0), (32, .istore_n 3, 1, 0, 0, 0, 0), (33, .iconst 0, 1, 0, 0, 0, 0), (34, .istore 4, 2, 0, 0, 0, 0), (36, .iload_n 3, 1, 0, 0, 0, 0), (37, .aload_n 0, 1, 0, 0, 0, 0), (38, .getfield 400, 3, 11, 44, 1484, 0), (41, .if_icmp .lt 12, 3, 53, 0, 0, 0), (44, .iload 4, 2, 0, 0, 0, 0), (46, .aload_n 0, 1, 0, 0, 0, 0), (47, .getfield 403, 3, 11, 45, 1485, 0), (50, .if_icmp .ge 175, 3, 225, 0, 0, 0), (53, .aload_n 0, 1, 0, 0, 0, 0), (54, .iload_n 1, 1, 0, 0, 0, 0), (55, .iload_n 2, 1, 0, 0, 0, 0), (56, .iload_n 3, 1, 0, 0, 0, 0), (57, .iload 4, 2, 0, 0, 0, 0), (59, .invokevirtual 420, 3, 266, 5, 2090, 0), (62, .istore 5, 2, 0, 0, 0, 0), (64, .aload_n 0, 1, 0, 0, 0, 0), (65, .iload_n 1, 1, 0, 0, 0, 0), (66, .iload_n 2, 1, 0, 0, 0, 0), (67, .iload_n 3, 1, 0, 0, 0, 0), (68, .invokevirtual 432, 3, 267, 4, 2102, 0), (71, .ifCond .eq 48, 3, 119, 0, 0, 0), (74, .aload_n 0, 1, 0, 0, 0, 0), (75, .iload_n 1, 1, 0, 0, 0, 0), (76, .iload_n 3, 1, 0, 0, 0, 0), (77, .iload 4, 2, 0, 0, 0, 0), (79, .invokevirtual 435, 3, 269, 4, 2110, 0), (82, .iload 5, 2, 0, 0, 0, 0), (84, .if_icmp .ne 35, 3, 119, 0, 0, 0), (87, .aload_n 0, 1, 0, 0, 0, 0), (88, .iconst 0, 1, 0, 0, 0, 0), (89, .iload_n 1, 1, 0, 0, 0, 0), (90, .aload_n 0, 1, 0, 0, 0, 0), (91, .getfield 83, 3, 11, 42, 1482, 0), (94, .iload_n 3, 1, 0, 0, 0, 0), (95, .iaload, 1, 0, 0, 0, 0), (96, .invokevirtual 457, 3, 274, 4, 2134, 0), (99, .iload_n 1, 1, 0, 0, 0, 0), (100, .aload_n 0, 1, 0, 0, 0, 0), (101, .aload_n 0, 1, 0, 0, 0, 0), (102, .getfield 83, 3, 11, 42, 1482, 0), (105, .iload_n 3, 1, 0, 0, 0, 0), (106, .iaload, 1, 0, 0, 0, 0), (107, .iconst 2, 1, 0, 0, 0, 0), (108, .invokevirtual 417, 3, 262, 3, 2106, 0), (111, .iadd, 1, 0, 0, 0, 0), (112, .istore_n 1, 1, 0, 0, 0, 0), (113, .iinc 3 1, 3, 0, 0, 0, 0), (116, .goto 106, 3, 222, 0, 0, 0), (119, .aload_n 0, 1, 0, 0, 0, 0), (120, .iload_n 1, 1, 0, 0, 0, 0), (121, .iload_n 2, 1, 0, 0, 0, 0), (122, .iload 4, 2, 0, 0, 0, 0), (124, .invokevirtual 439, 3, 268, 4, 2114, 0), (127, .ifCond .eq 50, 3, 177, 0, 0, 0), (130, .aload_n 0, 1, 0, 0, 0, 0), (131, .iload_n 1, 1, 0, 0, 0, 0), (132, .iload_n 3, 1, 0, 0, 0, 0), (133, .iload 4, 2, 0, 0, 0, 0), (135, .invokevirtual 442, 3, 270, 4, 2118, 0), (138, .iload 5, 2, 0, 0, 0, 0), (140, .if_icmp .ne 37, 3, 177, 0, 0, 0), (143, .aload_n 0, 1, 0, 0, 0, 0), (144, .iconst 1, 1, 0, 0, 0, 0), (145, .iload_n 1, 1, 0, 0, 0, 0), (146, .aload_n 0, 1, 0, 0, 0, 0), (147, .getfield 86, 3, 11, 43, 1483, 0), (150, .iload 4, 2, 0, 0, 0, 0), (152, .iaload, 1, 0, 0, 0, 0), (153, .invokevirtual 457, 3, 274, 4, 2134, 0), (156, .iload_n 1, 1, 0, 0, 0, 0), (157, .aload_n 0, 1, 0, 0, 0, 0), (158, .aload_n 0, 1, 0, 0, 0, 0), (159, .getfield 86, 3, 11, 43, 1483, 0), (162, .iload 4, 2, 0, 0, 0, 0), (164, .iaload, 1, 0, 0, 0, 0), (165, .iconst 1, 1, 0, 0, 0, 0), (166, .invokevirtual 423, 3, 263, 3, 2122, 0), (169, .iadd, 1, 0, 0, 0, 0), (170, .istore_n 1, 1, 0, 0, 0, 0), (171, .iinc 4 1, 3, 0, 0, 0, 0), (174, .goto 48, 3, 222, 0, 0, 0), (177, .aload_n 0, 1, 0, 0, 0, 0), (178, .iload_n 1, 1, 0, 0, 0, 0), (179, .iconst 1, 1, 0, 0, 0, 0), (180, .iadd, 1, 0, 0, 0, 0), (181, .iload_n 2, 1, 0, 0, 0, 0), (182, .iload_n 3, 1, 0, 0, 0, 0), (183, .iload 4, 2, 0, 0, 0, 0), (185, .invokevirtual 420, 3, 266, 5, 2090, 0), (188, .iload 5, 2, 0, 0, 0, 0), (190, .if_icmp .ne 9, 3, 199, 0, 0, 0), (193, .iinc 1 1, 3, 0, 0, 0, 0), (196, .goto 26, 3, 222, 0, 0, 0), (199, .aload_n 0, 1, 0, 0, 0, 0), (200, .iconst 2, 1, 0, 0, 0, 0), (201, .iload_n 1, 1, 0, 0, 0, 0), (202, .iconst (-1), 1, 0, 0, 0, 0), (203, .invokevirtual 457, 3, 274, 4, 2134, 0), (206, .iload_n 1, 1, 0, 0, 0, 0), (207, .aload_n 0, 1, 0, 0, 0, 0), (208, .iload_n 1, 1, 0, 0, 0, 0), (209, .aload_n 0, 1, 0, 0, 0, 0), (210, .getfield 426, 3, 11, 48, 1488, 0), (213, .invokevirtual 429, 3, 264, 3, 2098, 0), (216, .iadd, 1, 0, 0, 0, 0), (217, .istore_n 1, 1, 0, 0, 0, 0), (218, .iconst 1, 1, 0, 0, 0, 0), (219, .iload_n 2, 1, 0, 0, 0, 0), (220, .isub, 1, 0, 0, 0, 0), (221, .istore_n 2, 1, 0, 0, 0, 0), (222, .goto (-186), 3, 36, 0, 0, 0), (225, .aload_n 0, 1, 0, 0, 0, 0), (226, .iload_n 1, 1, 0, 0, 0, 0), (227, .putfield 454, 3, 11, 57, 1497, 0), (230, .iconst 1, 1, 0, 0, 0, 0), (231, .ireturn, 1, 0, 0, 0, 0)]
def x_t_X12_plan : List (Nat × x_Row) := [(0, .aload_n 0, 1, 0, 0, 0, 0), (1, .invokevirtual 460, 3, 275, 1, 2130, 0), (4, .ifCond .ne 10, 3, 14, 0, 0, 0), (7, .aload_n 0, 1, 0, 0, 0, 0), (8, .bipush 6, 2, 0, 0, 0, 0), (10, .invokevirtual 129, 3, 176, 2, 1748, 0), (13, .ireturn, 1, 0, 0, 0, 0), (14, .iconst 0, 1, 0, 0, 0, 0), (15, .istore_n 1, 1, 0, 0, 0, 0), (16, .iload_n 1, 1, 0, 0, 0, 0), (17, .aload_n 0, 1, 0, 0, 0, 0), (18, .getfield 451, 3, 11, 55, 1495, 0), (21, .if_icmp .ge 45, 3, 66, 0, 0, 0), (24, .aload_n 0, 1, 0, 0, 0, 0), (25, .getfield 104, 3, 11, 52, 1492, 0), (28, .iload_n 1, 1, 0, 0, 0, 0), (29, .aload_n 0, 1, 0, 0, 0, 0), (30, .getfield 95, 3, 11, 49, 1489, 0), (33, .iload_n 1, 1, 0, 0, 0, 0), (34, .iaload, 1, 0, 0, 0, 0), (35, .iastore, 1, 0, 0, 0, 0), (36, .aload_n 0, 1, 0, 0, 0, 0), (37, .getfield 107, 3, 11, 53, 1493, 0), (40, .iload_n 1, 1, 0, 0, 0, 0), (41, .aload_n 0, 1, 0, 0, 0, 0), (42, .getfield 98, 3, 11, 50, 1490, 0), (45, .iload_n 1, 1, 0, 0, 0, 0), (46, .iaload, 1, 0, 0, 0, 0), (47, .iastore, 1, 0, 0, 0, 0), (48, .aload_n 0, 1, 0, 0, 0, 0), (49, .getfield 110, 3, 11, 54, 1494, 0), (52, .iload_n 1, 1, 0, 0, 0, 0), (53, .aload_n 0, 1, 0, 0, 0, 0), (54, .getfield 101, 3, 11, 51, 1491, 0), (57, .iload_n 1, 1, 0, 0, 0, 0), (58, .iaload, 1, 0, 0, 0, 0), (59, .iastore, 1, 0, 0, 0, 0), (60, .iinc 1 1, 3, 0, 0, 0, 0), (63, .goto (-47), 3, 16, 0, 0, 0), (66, .aload_n 0, 1, 0, 0, 0, 0), (67, .aload_n 0, 1, 0, 0, 0, 0), (68, .getfield 451, 3, 11, 55, 1495, 0), (71, .putfield 463, 3, 11, 56, 1496, 0), (74, .aload_n 0, 1, 0, 0, 0, 0), (75, .aload_n 0, 1, 0, 0, 0, 0), (76, .getfield 451, 3, 11, 55, 1495, 0), (79, .invokevirtual 133, 3, 177, 2, 1873, 0), (82, .ireturn, 1, 0, 0, 0, 0)]
def x_t_X12_planAt : List (Nat × x_Row) := [(0, .iload_n 2, 1, 0, 0, 0, 0), (1, .ifCond .lt 8, 3, 9, 0, 0, 0), (4, .iload_n 2, 1, 0, 0, 0, 0), (5, .iconst 2, 1, 0, 0, 0, 0), (6, .if_icmp .le 9, 3, 15, 0, 0, 0), (9, .aload_n 0, 1, 0, 0, 0, 0), (10, .iconst 1, 1, 0, 0, 0, 0), (11, .invokevirtual 129, 3, 176, 2, 1748, 0), (14, .ireturn, 1, 0, 0, 0, 0), (15, .iload_n 1, 1, 0, 0, 0, 0), (16, .ifCond .lt 11, 3, 27, 0, 0, 0), (19, .iload_n 1, 1, 0, 0, 0, 0), (20, .aload_n 0, 1, 0, 0, 0, 0), (21, .getfield 463, 3, 11, 56, 1496, 0), (24, .if_icmp .lt 10, 3, 34, 0, 0, 0), (27, .aload_n 0, 1, 0, 0, 0, 0), (28, .bipush 6, 2, 0, 0, 0, 0), (30, .invokevirtual 129, 3, 176, 2, 1748, 0), (33, .ireturn, 1, 0, 0, 0, 0), (34, .iload_n 2, 1, 0, 0, 0, 0), (35, .iconst 2, 1, 0, 0, 0, 0), (36, .if_icmp .ne 16, 3, 52, 0, 0, 0), (39, .aload_n 0, 1, 0, 0, 0, 0), (40, .aload_n 0, 1, 0, 0, 0, 0), (41, .getfield 110, 3, 11, 54, 1494, 0), (44, .iload_n 1, 1, 0, 0, 0, 0), (45, .iaload, 1, 0, 0, 0, 0), (46, .invokevirtual 371, 3, 178, 2, 2007, 0), (49, .goto 26, 3, 75, 0, 0, 0), (52, .aload_n 0, 1, 0, 0, 0, 0), (53, .iload_n 2, 1, 0, 0, 0, 0), (54, .ifCond .ne 12, 3, 66, 0, 0, 0), (57, .aload_n 0, 1, 0, 0, 0, 0), (58, .getfield 104, 3, 11, 52, 1492, 0), (61, .iload_n 1, 1, 0, 0, 0, 0), (62, .iaload, 1, 0, 0, 0, 0), (63, .goto 9, 3, 72, 0, 0, 0), (66, .aload_n 0, 1, 0, 0, 0, 0), (67, .getfield 107, 3, 11, 53, 1493, 0), (70, .iload_n 1, 1, 0, 0, 0, 0), (71, .iaload, 1, 0, 0, 0, 0), (72, .invokevirtual 133, 3, 177, 2, 1873, 0), (75, .ireturn, 1, 0, 0, 0, 0)]
def x_t_X12_worth : List (Nat × x_Row) := [(0, .aload_n 0, 1, 0, 0, 0, 0), (1, .iload_n 1, 1, 0, 0, 0, 0), (2, .invokevirtual 320, 3, 228, 2, 1929, 0), (5, .ifCond .ne 9, 3, 14, 0, 0, 0), (8, .aload_n 0, 1, 0, 0, 0, 0), (9, .iconst 1, 1, 0, 0, 0, 0), (10, .invokevirtual 129, 3, 176, 2, 1748, 0), (13, .ireturn, 1, 0, 0, 0, 0), (14, .aload_n 0, 1, 0, 0, 0, 0), (15, .iconst 0, 1, 0, 0, 0, 0), (16, .aload_n 0, 1, 0, 0, 0, 0), (17, .getfield 7, 3, 11, 0, 1440, 0), (20, .iconst 4, 1, 0, 0, 0, 0), (21, .iaload, 1, 0, 0, 0, 0), (22, .invokevirtual 448, 3, 272, 3, 2082, 0), (25, .istore_n 2, 1, 0, 0, 0, 0), (26, .iload_n 2, 1, 0, 0, 0, 0), (27, .iconst (-1), 1, 0, 0, 0, 0), (28, .if_icmp .ne 12, 3, 40, 0, 0, 0), (31, .aload_n 0, 1, 0, 0, 0, 0), (32, .bipush 6, 2, 0, 0, 0, 0), (34, .invokevirtual 129, 3, 176, 2, 1748, 0), (37, .goto 22, 3, 59, 0, 0, 0), (40, .aload_n 0, 1, 0, 0, 0, 0), (41, .iload_n 2, 1, 0, 0, 0, 0), (42, .aload_n 0, 1, 0, 0, 0, 0), (43, .iconst 1, 1, 0, 0, 0, 0), (44, .iload_n 1, 1, 0, 0, 0, 0), (45, .ishl, 1, 0, 0, 0, 0), (46, .aload_n 0, 1, 0, 0, 0, 0), (47, .getfield 7, 3, 11, 0, 1440, 0), (50, .iconst 4, 1, 0, 0, 0, 0), (51, .iaload, 1, 0, 0, 0, 0), (52, .invokevirtual 448, 3, 272, 3, 2082, 0), (55, .isub, 1, 0, 0, 0, 0), (56, .invokevirtual 133, 3, 177, 2, 1873, 0), (59, .ireturn, 1, 0, 0, 0, 0)]
def x_t_X12_quicker : List (Nat × x_Row) := [(0, .iload_n 1, 1, 0, 0, 0, 0), (1, .i2l, 1, 0, 0, 0, 0), (2, .lconst 1, 1, 0, 0, 0, 0), (3, .ldc2_w 466, 3, 0, 0, 2150, 20), (6, .invokestatic 349, 3, 188, 3, 1977, 0), (9, .ifCond .eq 16, 3, 25, 0, 0, 0), (12, .aload_n 0, 1, 0, 0, 0, 0), (13, .aload_n 0, 1, 0, 0, 0, 0), (14, .iconst 0, 1, 0, 0, 0, 0), (15, .iload_n 1, 1, 0, 0, 0, 0), (16, .invokevirtual 448, 3, 272, 3, 2082, 0), (19, .invokevirtual 371, 3, 178, 2, 2007, 0), (22, .goto 8, 3, 30, 0, 0, 0), (25, .aload_n 0, 1, 0, 0, 0, 0), (26, .iconst 1, 1, 0, 0, 0, 0), (27, .invokevirtual 129, 3, 176, 2, 1748, 0), (30, .ireturn, 1, 0, 0, 0, 0)]
def x_t_X12_away : List (Nat × x_Row) := [(0, .iconst (-1), 1, 0, 0, 0, 0), (1, .istore_n 1, 1, 0, 0, 0, 0), (2, .iconst 0, 1, 0, 0, 0, 0), (3, .istore_n 2, 1, 0, 0, 0, 0), (4, .iload_n 2, 1, 0, 0, 0, 0), (5, .iconst 1, 1, 0, 0, 0, 0), (6, .aload_n 0, 1, 0, 0, 0, 0), (7, .getfield 7, 3, 11, 0, 1440, 0), (10, .iconst 1, 1, 0, 0, 0, 0), (11, .iaload, 1, 0, 0, 0, 0), (12, .ishl, 1, 0, 0, 0, 0), (13, .if_icmp .ge 44, 3, 57, 0, 0, 0), (16, .iload_n 1, 1, 0, 0, 0, 0), (17, .iconst (-1), 1, 0, 0, 0, 0), (18, .if_icmp .eq 16, 3, 34, 0, 0, 0), (21, .iload_n 2, 1, 0, 0, 0, 0), (22, .i2l, 1, 0, 0, 0, 0), (23, .invokestatic 353, 3, 237, 1, 1988, 0), (26, .iload_n 1, 1, 0, 0, 0, 0), (27, .i2l, 1, 0, 0, 0, 0), (28, .invokestatic 353, 3, 237, 1, 1988, 0), (31, .if_icmp .ge 20, 3, 51, 0, 0, 0), (34, .aload_n 0, 1, 0, 0, 0, 0), (35, .iload_n 2, 1, 0, 0, 0, 0), (36, .aload_n 0, 1, 0, 0, 0, 0), (37, .getfield 7, 3, 11, 0, 1440, 0), (40, .iconst 4, 1, 0, 0, 0, 0), (41, .iaload, 1, 0, 0, 0, 0), (42, .invokevirtual 448, 3, 272, 3, 2082, 0), (45, .iconst (-1), 1, 0, 0, 0, 0), (46, .if_icmp .eq 5, 3, 51, 0, 0, 0), (49, .iload_n 2, 1, 0, 0, 0, 0), (50, .istore_n 1, 1, 0, 0, 0, 0), (51, .iinc 2 1, 3, 0, 0, 0, 0), (54, .goto (-50), 3, 4, 0, 0, 0), (57, .aload_n 0, 1, 0, 0, 0, 0), (58, .iload_n 1, 1, 0, 0, 0, 0), (59, .invokevirtual 371, 3, 178, 2, 2007, 0), (62, .ireturn, 1, 0, 0, 0, 0)]
def x_t_X12_later : List (Nat × x_Row) := [(0, .aload_n 0, 1, 0, 0, 0, 0), (1, .iload_n 1, 1, 0, 0, 0, 0), (2, .invokevirtual 320, 3, 228, 2, 1929, 0), (5, .ifCond .eq 15, 3, 20, 0, 0, 0), (8, .iload_n 2, 1, 0, 0, 0, 0), (9, .i2l, 1, 0, 0, 0, 0), (10, .lconst 0, 1, 0, 0, 0, 0), (11, .ldc2_w 468, 3, 0, 0, 2159, 60), (14, .invokestatic 349, 3, 188, 3, 1977, 0), (17, .ifCond .ne 9, 3, 26, 0, 0, 0), (20, .aload_n 0, 1, 0, 0, 0, 0), (21, .iconst 1, 1, 0, 0, 0, 0), (22, .invokevirtual 129, 3, 176, 2, 1748, 0), (25, .ireturn, 1, 0, 0, 0, 0), (26, .aload_n 0, 1, 0, 0, 0, 0), (27, .aload_n 0, 1, 0, 0, 0, 0), (28, .iload_n 1, 1, 0, 0, 0, 0), (29, .iload_n 2, 1, 0, 0, 0, 0), (30, .invokevirtual 470, 3, 282, 3, 2160, 0), (33, .invokevirtual 371, 3, 178, 2, 2007, 0), (36, .ireturn, 1, 0, 0, 0, 0)]
def x_t_X12_laterBy : List (Nat × x_Row) := [(0, .aload_n 0, 1, 0, 0, 0, 0), (1, .invokevirtual 406, 3, 258, 1, 2066, 0), (4, .aload_n 0, 1, 0, 0, 0, 0), (5, .getfield 80, 3, 11, 41, 1481, 0), (8, .iload_n 1, 1, 0, 0, 0, 0), (9, .dup2, 1, 0, 0, 0, 0), (10, .iaload, 1, 0, 0, 0, 0), (11, .iload_n 2, 1, 0, 0, 0, 0), (12, .iadd, 1, 0, 0, 0, 0), (13, .iastore, 1, 0, 0, 0, 0), (14, .aload_n 0, 1, 0, 0, 0, 0), (15, .iconst 0, 1, 0, 0, 0, 0), (16, .invokevirtual 409, 3, 259, 2, 2070, 0), (19, .aload_n 0, 1, 0, 0, 0, 0), (20, .aload_n 0, 1, 0, 0, 0, 0), (21, .getfield 7, 3, 11, 0, 1440, 0), (24, .iconst 4, 1, 0, 0, 0, 0), (25, .iaload, 1, 0, 0, 0, 0), (26, .putfield 426, 3, 11, 48, 1488, 0), (29, .aload_n 0, 1, 0, 0, 0, 0), (30, .invokevirtual 445, 3, 271, 1, 2086, 0), (33, .ireturn, 1, 0, 0, 0, 0)]
def x_t_X12_slack : List (Nat × x_Row) := [(0, .aload_n 0, 1, 0, 0, 0, 0), (1, .iload_n 1, 1, 0, 0, 0, 0), (2, .invokevirtual 320, 3, 228, 2, 1929, 0), (5, .ifCond .ne 9, 3, 14, 0, 0, 0), (8, .aload_n 0, 1, 0, 0, 0, 0), (9, .iconst 1, 1, 0, 0, 0, 0), (10, .invokevirtual 129, 3, 176, 2, 1748, 0), (13, .ireturn, 1, 0, 0, 0, 0), (14, .aload_n 0, 1, 0, 0, 0, 0), (15, .iconst 0, 1, 0, 0, 0, 0), (16, .aload_n 0, 1, 0, 0, 0, 0), (17, .getfield 7, 3, 11, 0, 1440, 0), (20, .iconst 4, 1, 0, 0, 0, 0), (21, .iaload, 1, 0, 0, 0, 0), (22, .invokevirtual 448, 3, 272, 3, 2082, 0), (25, .istore_n 2, 1, 0, 0, 0, 0), (26, .iload_n 2, 1, 0, 0, 0, 0), (27, .iconst (-1), 1, 0, 0, 0, 0), (28, .if_icmp .ne 10, 3, 38, 0, 0, 0), (31, .aload_n 0, 1, 0, 0, 0, 0), (32, .bipush 6, 2, 0, 0, 0, 0), (34, .invokevirtual 129, 3, 176, 2, 1748, 0), (37, .ireturn, 1, 0, 0, 0, 0), (38, .iconst 0, 1, 0, 0, 0, 0), (39, .istore_n 3, 1, 0, 0, 0, 0), (40, .iconst 1, 1, 0, 0, 0, 0), (41, .istore 4, 2, 0, 0, 0, 0), (43, .iload 4, 2, 0, 0, 0, 0), (45, .bipush 60, 2, 0, 0, 0, 0), (47, .if_icmp .gt 33, 3, 80, 0, 0, 0), (50, .aload_n 0, 1, 0, 0, 0, 0), (51, .iload_n 1, 1, 0, 0, 0, 0), (52, .iload 4, 2, 0, 0, 0, 0), (54, .invokevirtual 470, 3, 282, 3, 2160, 0), (57, .istore 5, 2, 0, 0, 0, 0), (59, .iload 5, 2, 0, 0, 0, 0), (61, .iconst (-1), 1, 0, 0, 0, 0), (62, .if_icmp .eq 12, 3, 74, 0, 0, 0), (65, .iload 5, 2, 0, 0, 0, 0), (67, .iload_n 2, 1, 0, 0, 0, 0), (68, .if_icmp .gt 6, 3, 74, 0, 0, 0), (71, .iload 4, 2, 0, 0, 0, 0), (73, .istore_n 3, 1, 0, 0, 0, 0), (74, .iinc 4 1, 3, 0, 0, 0, 0), (77, .goto (-34), 3, 43, 0, 0, 0), (80, .aload_n 0, 1, 0, 0, 0, 0), (81, .iload_n 3, 1, 0, 0, 0, 0), (82, .invokevirtual 133, 3, 177, 2, 1873, 0), (85, .ireturn, 1, 0, 0, 0, 0)]
def x_t_X12_without : List (Nat × x_Row) := [(0, .aload_n 0, 1, 0, 0, 0, 0), (1, .iload_n 1, 1, 0, 0, 0, 0), (2, .invokevirtual 323, 3, 229, 2, 1937, 0), (5, .ifCond .ne 9, 3, 14, 0, 0, 0), (8, .aload_n 0, 1, 0, 0, 0, 0), (9, .iconst 1, 1, 0, 0, 0, 0), (10, .invokevirtual 129, 3, 176, 2, 1748, 0), (13, .ireturn, 1, 0, 0, 0, 0), (14, .aload_n 0, 1, 0, 0, 0, 0), (15, .iload_n 1, 1, 0, 0, 0, 0), (16, .putfield 89, 3, 11, 46, 1486, 0), (19, .aload_n 0, 1, 0, 0, 0, 0), (20, .iconst 0, 1, 0, 0, 0, 0), (21, .aload_n 0, 1, 0, 0, 0, 0), (22, .getfield 7, 3, 11, 0, 1440, 0), (25, .iconst 4, 1, 0, 0, 0, 0), (26, .iaload, 1, 0, 0, 0, 0), (27, .invokevirtual 448, 3, 272, 3, 2082, 0), (30, .istore_n 2, 1, 0, 0, 0, 0), (31, .aload_n 0, 1, 0, 0, 0, 0), (32, .iconst (-1), 1, 0, 0, 0, 0), (33, .putfield 89, 3, 11, 46, 1486, 0), (36, .aload_n 0, 1, 0, 0, 0, 0), (37, .iload_n 2, 1, 0, 0, 0, 0), (38, .invokevirtual 371, 3, 178, 2, 2007, 0), (41, .ireturn, 1, 0, 0, 0, 0)]
def x_t_X12_cameBy : List (Nat × x_Row) := [(0, .aload_n 0, 1, 0, 0, 0, 0), (1, .getfield 95, 3, 11, 49, 1489, 0), (4, .iload_n 1, 1, 0, 0, 0, 0), (5, .iaload, 1, 0, 0, 0, 0), (6, .ifCond .ne 17, 3, 23, 0, 0, 0), (9, .aload_n 0, 1, 0, 0, 0, 0), (10, .getfield 80, 3, 11, 41, 1481, 0), (13, .aload_n 0, 1, 0, 0, 0, 0), (14, .getfield 101, 3, 11, 51, 1491, 0), (17, .iload_n 1, 1, 0, 0, 0, 0), (18, .iaload, 1, 0, 0, 0, 0), (19, .iaload, 1, 0, 0, 0, 0), (20, .goto 17, 3, 37, 0, 0, 0), (23, .aload_n 0, 1, 0, 0, 0, 0), (24, .getfield 80, 3, 11, 41, 1481, 0), (27, .bipush 6, 2, 0, 0, 0, 0), (29, .aload_n 0, 1, 0, 0, 0, 0), (30, .getfield 101, 3, 11, 51, 1491, 0), (33, .iload_n 1, 1, 0, 0, 0, 0), (34, .iaload, 1, 0, 0, 0, 0), (35, .iadd, 1, 0, 0, 0, 0), (36, .iaload, 1, 0, 0, 0, 0), (37, .ireturn, 1, 0, 0, 0, 0)]
def x_t_X12_costsBy : List (Nat × x_Row) := [(0, .aload_n 0, 1, 0, 0, 0, 0), (1, .getfield 95, 3, 11, 49, 1489, 0), (4, .iload_n 1, 1, 0, 0, 0, 0), (5, .iaload, 1, 0, 0, 0, 0), (6, .ifCond .ne 17, 3, 23, 0, 0, 0), (9, .aload_n 0, 1, 0, 0, 0, 0), (10, .aload_n 0, 1, 0, 0, 0, 0), (11, .getfield 101, 3, 11, 51, 1491, 0), (14, .iload_n 1, 1, 0, 0, 0, 0), (15, .iaload, 1, 0, 0, 0, 0), (16, .iconst 3, 1, 0, 0, 0, 0), (17, .invokevirtual 417, 3, 262, 3, 2106, 0), (20, .goto 14, 3, 34, 0, 0, 0), (23, .aload_n 0, 1, 0, 0, 0, 0), (24, .aload_n 0, 1, 0, 0, 0, 0), (25, .getfield 101, 3, 11, 51, 1491, 0), (28, .iload_n 1, 1, 0, 0, 0, 0), (29, .iaload, 1, 0, 0, 0, 0), (30, .iconst 2, 1, 0, 0, 0, 0), (31, .invokevirtual 423, 3, 263, 3, 2122, 0), (34, .ireturn, 1, 0, 0, 0, 0)]
def x_t_X12_dearest : List (Nat × x_Row) := [(0, .aload_n 0, 1, 0, 0, 0, 0), (1, .invokevirtual 460, 3, 275, 1, 2130, 0), (4, .ifCond .ne 10, 3, 14, 0, 0, 0), (7, .aload_n 0, 1, 0, 0, 0, 0), (8, .bipush 6, 2, 0, 0, 0, 0), (10, .invokevirtual 129, 3, 176, 2, 1748, 0), (13, .ireturn, 1, 0, 0, 0, 0), (14, .iconst (-1), 1, 0, 0, 0, 0), (15, .istore_n 1, 1, 0, 0, 0, 0), (16, .iconst 0, 1, 0, 0, 0, 0), (17, .istore_n 2, 1, 0, 0, 0, 0), (18, .iconst 0, 1, 0, 0, 0, 0), (19, .istore_n 3, 1, 0, 0, 0, 0), (20, .iload_n 3, 1, 0, 0, 0, 0), (21, .aload_n 0, 1, 0, 0, 0, 0), (22, .getfield 451, 3, 11, 55, 1495, 0), (25, .if_icmp .ge 103, 3, 128, 0, 0, 0), (28, .aload_n 0, 1, 0, 0, 0, 0), (29, .getfield 95, 3, 11, 49, 1489, 0), (32, .iload_n 3, 1, 0, 0, 0, 0), (33, .iaload, 1, 0, 0, 0, 0), (34, .iconst 2, 1, 0, 0, 0, 0), (35, .if_icmp .ne 6, 3, 41, 0, 0, 0), (38, .goto 84, 3, 122, 0, 0, 0), (41, .aload_n 0, 1, 0, 0, 0, 0), (42, .getfield 95, 3, 11, 49, 1489, 0), (45, .iload_n 3, 1, 0, 0, 0, 0), (46, .iaload, 1, 0, 0, 0, 0), (47, .ifCond .ne 12, 3, 59, 0, 0, 0), (50, .aload_n 0, 1, 0, 0, 0, 0), (51, .getfield 101, 3, 11, 51, 1491, 0), (54, .iload_n 3, 1, 0, 0, 0, 0), (55, .iaload, 1, 0, 0, 0, 0), (56, .goto 12, 3, 68, 0, 0, 0), (59, .bipush 6, 2, 0, 0, 0, 0), (61, .aload_n 0, 1, 0, 0, 0, 0), (62, .getfield 101, 3, 11, 51, 1491, 0), (65, .iload_n 3, 1, 0, 0, 0, 0), (66, .iaload, 1, 0, 0, 0, 0), (67, .iadd, 1, 0, 0, 0, 0), (68, .istore 4, 2, 0, 0, 0, 0), (70, .aload_n 0, 1, 0, 0, 0, 0), (71, .getfield 98, 3, 11, 50, 1490, 0), (74, .iload_n 3, 1, 0, 0, 0, 0), (75, .iaload, 1, 0, 0, 0, 0), (76, .aload_n 0, 1, 0, 0, 0, 0), (77, .iload_n 3, 1, 0, 0, 0, 0), (78, .invokevirtual 473, 3, 285, 2, 2176, 0), (81, .isub, 1, 0, 0, 0, 0), (82, .aload_n 0, 1, 0, 0, 0, 0), (83, .iload_n 3, 1, 0, 0, 0, 0), (84, .invokevirtual 476, 3, 286, 2, 2180, 0), (87, .imul, 1, 0, 0, 0, 0), (88, .istore 5, 2, 0, 0, 0, 0), (90, .iload 5, 2, 0, 0, 0, 0), (92, .iload_n 2, 1, 0, 0, 0, 0), (93, .if_icmp .lt 29, 3, 122, 0, 0, 0), (96, .iload 5, 2, 0, 0, 0, 0), (98, .ifCond .eq 24, 3, 122, 0, 0, 0), (101, .iload 5, 2, 0, 0, 0, 0), (103, .iload_n 2, 1, 0, 0, 0, 0), (104, .if_icmp .ne 12, 3, 116, 0, 0, 0), (107, .iload 4, 2, 0, 0, 0, 0), (109, .iload_n 1, 1, 0, 0, 0, 0), (110, .if_icmp .le 6, 3, 116, 0, 0, 0), (113, .goto 9, 3, 122, 0, 0, 0), (116, .iload 5, 2, 0, 0, 0, 0), (118, .istore_n 2, 1, 0, 0, 0, 0), (119, .iload 4, 2, 0, 0, 0, 0), (121, .istore_n 1, 1, 0, 0, 0, 0), (122, .iinc 3 1, 3, 0, 0, 0, 0), (125, .goto (-105), 3, 20, 0, 0, 0), (128, .aload_n 0, 1, 0, 0, 0, 0), (129, .iload_n 1, 1, 0, 0, 0, 0), (130, .invokevirtual 371, 3, 178, 2, 2007, 0), (133, .ireturn, 1, 0, 0, 0, 0)]
def x_t_X12_opened : List (Nat × x_Row) := [(0, .aload_n 0, 1, 0, 0, 0, 0), (1, .invokevirtual 460, 3, 275, 1, 2130, 0), (4, .ifCond .ne 10, 3, 14, 0, 0, 0), (7, .aload_n 0, 1, 0, 0, 0, 0), (8, .bipush 6, 2, 0, 0, 0, 0), (10, .invokevirtual 129, 3, 176, 2, 1748, 0), (13, .ireturn, 1, 0, 0, 0, 0), (14, .iconst 0, 1, 0, 0, 0, 0), (15, .istore_n 1, 1, 0, 0, 0, 0), (16, .iconst (-1), 1, 0, 0, 0, 0), (17, .istore_n 2, 1, 0, 0, 0, 0), (18, .iconst 0, 1, 0, 0, 0, 0), (19, .istore_n 3, 1, 0, 0, 0, 0), (20, .iload_n 3, 1, 0, 0, 0, 0), (21, .aload_n 0, 1, 0, 0, 0, 0), (22, .getfield 451, 3, 11, 55, 1495, 0), (25, .if_icmp .ge 67, 3, 92, 0, 0, 0), (28, .aload_n 0, 1, 0, 0, 0, 0), (29, .getfield 95, 3, 11, 49, 1489, 0), (32, .iload_n 3, 1, 0, 0, 0, 0), (33, .iaload, 1, 0, 0, 0, 0), (34, .iconst 2, 1, 0, 0, 0, 0), (35, .if_icmp .eq 6, 3, 41, 0, 0, 0), (38, .goto 48, 3, 86, 0, 0, 0), (41, .iload_n 2, 1, 0, 0, 0, 0), (42, .iconst (-1), 1, 0, 0, 0, 0), (43, .if_icmp .ne 30, 3, 73, 0, 0, 0), (46, .aload_n 0, 1, 0, 0, 0, 0), (47, .getfield 98, 3, 11, 50, 1490, 0), (50, .iload_n 3, 1, 0, 0, 0, 0), (51, .iaload, 1, 0, 0, 0, 0), (52, .aload_n 0, 1, 0, 0, 0, 0), (53, .aload_n 0, 1, 0, 0, 0, 0), (54, .getfield 98, 3, 11, 50, 1490, 0), (57, .iload_n 3, 1, 0, 0, 0, 0), (58, .iaload, 1, 0, 0, 0, 0), (59, .aload_n 0, 1, 0, 0, 0, 0), (60, .getfield 7, 3, 11, 0, 1440, 0), (63, .iconst 4, 1, 0, 0, 0, 0), (64, .iaload, 1, 0, 0, 0, 0), (65, .invokevirtual 429, 3, 264, 3, 2098, 0), (68, .iadd, 1, 0, 0, 0, 0), (69, .istore_n 2, 1, 0, 0, 0, 0), (70, .goto 16, 3, 86, 0, 0, 0), (73, .iload_n 1, 1, 0, 0, 0, 0), (74, .aload_n 0, 1, 0, 0, 0, 0), (75, .getfield 98, 3, 11, 50, 1490, 0), (78, .iload_n 3, 1, 0, 0, 0, 0), (79, .iaload, 1, 0, 0, 0, 0), (80, .iload_n 2, 1, 0, 0, 0, 0), (81, .isub, 1, 0, 0, 0, 0), (82, .iadd, 1, 0, 0, 0, 0), (83, .istore_n 1, 1, 0, 0, 0, 0), (84, .iconst (-1), 1, 0, 0, 0, 0), (85, .istore_n 2, 1, 0, 0, 0, 0), (86, .iinc 3 1, 3, 0, 0, 0, 0), (89, .goto (-69), 3, 20, 0, 0, 0), (92, .aload_n 0, 1, 0, 0, 0, 0), (93, .iload_n 2, 1, 0, 0, 0, 0), (94, .iconst (-1), 1, 0, 0, 0, 0), (95, .if_icmp .ne 7, 3, 102, 0, 0, 0), (98, .iload_n 1, 1, 0, 0, 0, 0), (99, .goto 11, 3, 110, 0, 0, 0), (102, .iload_n 1, 1, 0, 0, 0, 0), (103, .aload_n 0, 1, 0, 0, 0, 0), (104, .getfield 454, 3, 11, 57, 1497, 0), (107, .iadd, 1, 0, 0, 0, 0), (108, .iload_n 2, 1, 0, 0, 0, 0), (109, .isub, 1, 0, 0, 0, 0), (110, .invokevirtual 133, 3, 177, 2, 1873, 0), (113, .ireturn, 1, 0, 0, 0, 0)]
def x_t_X12_busiest : List (Nat × x_Row) := [(0, .aload_n 0, 1, 0, 0, 0, 0), (1, .invokevirtual 460, 3, 275, 1, 2130, 0), (4, .ifCond .ne 10, 3, 14, 0, 0, 0), (7, .aload_n 0, 1, 0, 0, 0, 0), (8, .bipush 6, 2, 0, 0, 0, 0), (10, .invokevirtual 129, 3, 176, 2, 1748, 0), (13, .ireturn, 1, 0, 0, 0, 0), (14, .iconst (-1), 1, 0, 0, 0, 0), (15, .istore_n 1, 1, 0, 0, 0, 0), (16, .iconst 0, 1, 0, 0, 0, 0), (17, .istore_n 2, 1, 0, 0, 0, 0), (18, .iconst 0, 1, 0, 0, 0, 0), (19, .istore_n 3, 1, 0, 0, 0, 0), (20, .iload_n 3, 1, 0, 0, 0, 0), (21, .sipush 240, 3, 0, 0, 0, 0), (24, .if_icmp .gt 86, 3, 110, 0, 0, 0), (27, .iconst 0, 1, 0, 0, 0, 0), (28, .istore 4, 2, 0, 0, 0, 0), (30, .iconst 0, 1, 0, 0, 0, 0), (31, .istore 5, 2, 0, 0, 0, 0), (33, .iload 5, 2, 0, 0, 0, 0), (35, .aload_n 0, 1, 0, 0, 0, 0), (36, .getfield 451, 3, 11, 55, 1495, 0), (39, .if_icmp .ge 51, 3, 90, 0, 0, 0), (42, .iload 4, 2, 0, 0, 0, 0), (44, .aload_n 0, 1, 0, 0, 0, 0), (45, .getfield 95, 3, 11, 49, 1489, 0), (48, .iload 5, 2, 0, 0, 0, 0), (50, .iaload, 1, 0, 0, 0, 0), (51, .iconst 2, 1, 0, 0, 0, 0), (52, .if_icmp .eq 28, 3, 80, 0, 0, 0), (55, .aload_n 0, 1, 0, 0, 0, 0), (56, .iload 5, 2, 0, 0, 0, 0), (58, .invokevirtual 473, 3, 285, 2, 2176, 0), (61, .iload_n 3, 1, 0, 0, 0, 0), (62, .if_icmp .gt 18, 3, 80, 0, 0, 0), (65, .aload_n 0, 1, 0, 0, 0, 0), (66, .getfield 98, 3, 11, 50, 1490, 0), (69, .iload 5, 2, 0, 0, 0, 0), (71, .iaload, 1, 0, 0, 0, 0), (72, .iload_n 3, 1, 0, 0, 0, 0), (73, .if_icmp .le 7, 3, 80, 0, 0, 0), (76, .iconst 1, 1, 0, 0, 0, 0), (77, .goto 4, 3, 81, 0, 0, 0), (80, .iconst 0, 1, 0, 0, 0, 0), (81, .iadd, 1, 0, 0, 0, 0), (82, .istore 4, 2, 0, 0, 0, 0), (84, .iinc 5 1, 3, 0, 0, 0, 0), (87, .goto (-54), 3, 33, 0, 0, 0), (90, .iload 4, 2, 0, 0, 0, 0), (92, .iload_n 2, 1, 0, 0, 0, 0), (93, .if_icmp .gt 6, 3, 99, 0, 0, 0), (96, .goto 8, 3, 104, 0, 0, 0), (99, .iload 4, 2, 0, 0, 0, 0), (101, .istore_n 2, 1, 0, 0, 0, 0), (102, .iload_n 3, 1, 0, 0, 0, 0), (103, .istore_n 1, 1, 0, 0, 0, 0), (104, .iinc 3 1, 3, 0, 0, 0, 0), (107, .goto (-87), 3, 20, 0, 0, 0), (110, .aload_n 0, 1, 0, 0, 0, 0), (111, .iload_n 1, 1, 0, 0, 0, 0), (112, .invokevirtual 371, 3, 178, 2, 2007, 0), (115, .ireturn, 1, 0, 0, 0, 0)]
def x_t_X12_draw : List (Nat × x_Row) := [(0, .aload_n 0, 1, 0, 0, 0, 0), (1, .aload_n 0, 1, 0, 0, 0, 0), (2, .getfield 479, 3, 11, 58, 1498, 0), (5, .sipush 2749, 3, 0, 0, 0, 0), (8, .imul, 1, 0, 0, 0, 0), (9, .sipush 12553, 3, 0, 0, 0, 0), (12, .iadd, 1, 0, 0, 0, 0), (13, .ldc_w 482, 3, 0, 0, 2205, 65536), (16, .irem, 1, 0, 0, 0, 0), (17, .putfield 479, 3, 11, 58, 1498, 0), (20, .aload_n 0, 1, 0, 0, 0, 0), (21, .getfield 479, 3, 11, 58, 1498, 0), (24, .bipush 8, 2, 0, 0, 0, 0), (26, .idiv, 1, 0, 0, 0, 0), (27, .bipush 8, 2, 0, 0, 0, 0), (29, .irem, 1, 0, 0, 0, 0), (30, .ireturn, 1, 0, 0, 0, 0)]
def x_t_X12_waitingShips : List (Nat × x_Row) := [(0, .iconst 0, 1, 0, 0, 0, 0), (1, .istore_n 1, 1, 0, 0, 0, 0), (2, .aload_n 0, 1, 0, 0, 0, 0), (3, .getfield 483, 3, 11, 64, 1504, 0), (6, .istore_n 2, 1, 0, 0, 0, 0), (7, .iload_n 2, 1, 0, 0, 0, 0), (8, .aload_n 0, 1, 0, 0, 0, 0), (9, .getfield 400, 3, 11, 44, 1484, 0), (12, .if_icmp .ge 49, 3, 61, 0, 0, 0), (15, .iload_n 1, 1, 0, 0, 0, 0), (16, .aload_n 0, 1, 0, 0, 0, 0), (17, .getfield 113, 3, 11, 71, 1511, 0), (20, .aload_n 0, 1, 0, 0, 0, 0), (21, .getfield 83, 3, 11, 42, 1482, 0), (24, .iload_n 2, 1, 0, 0, 0, 0), (25, .iaload, 1, 0, 0, 0, 0), (26, .baload, 1, 0, 0, 0, 0), (27, .ifCond .ne 25, 3, 52, 0, 0, 0), (30, .aload_n 0, 1, 0, 0, 0, 0), (31, .getfield 80, 3, 11, 41, 1481, 0), (34, .aload_n 0, 1, 0, 0, 0, 0), (35, .getfield 83, 3, 11, 42, 1482, 0), (38, .iload_n 2, 1, 0, 0, 0, 0), (39, .iaload, 1, 0, 0, 0, 0), (40, .iaload, 1, 0, 0, 0, 0), (41, .aload_n 0, 1, 0, 0, 0, 0), (42, .getfield 486, 3, 11, 59, 1499, 0), (45, .if_icmp .gt 7, 3, 52, 0, 0, 0), (48, .iconst 1, 1, 0, 0, 0, 0), (49, .goto 4, 3, 53, 0, 0, 0), (52, .iconst 0, 1, 0, 0, 0, 0), (53, .iadd, 1, 0, 0, 0, 0), (54, .istore_n 1, 1, 0, 0, 0, 0), (55, .iinc 2 1, 3, 0, 0, 0, 0), (58, .goto (-51), 3, 7, 0, 0, 0), (61, .iload_n 1, 1, 0, 0, 0, 0), (62, .ireturn, 1, 0, 0, 0, 0)]
def x_t_X12_waitingCarts : List (Nat × x_Row) := [(0, .iconst 0, 1, 0, 0, 0, 0), (1, .istore_n 1, 1, 0, 0, 0, 0), (2, .aload_n 0, 1, 0, 0, 0, 0), (3, .getfield 489, 3, 11, 65, 1505, 0), (6, .istore_n 2, 1, 0, 0, 0, 0), (7, .iload_n 2, 1, 0, 0, 0, 0), (8, .aload_n 0, 1, 0, 0, 0, 0), (9, .getfield 403, 3, 11, 45, 1485, 0), (12, .if_icmp .ge 38, 3, 50, 0, 0, 0), (15, .iload_n 1, 1, 0, 0, 0, 0), (16, .aload_n 0, 1, 0, 0, 0, 0), (17, .getfield 80, 3, 11, 41, 1481, 0), (20, .bipush 6, 2, 0, 0, 0, 0), (22, .aload_n 0, 1, 0, 0, 0, 0), (23, .getfield 86, 3, 11, 43, 1483, 0), (26, .iload_n 2, 1, 0, 0, 0, 0), (27, .iaload, 1, 0, 0, 0, 0), (28, .iadd, 1, 0, 0, 0, 0), (29, .iaload, 1, 0, 0, 0, 0), (30, .aload_n 0, 1, 0, 0, 0, 0), (31, .getfield 486, 3, 11, 59, 1499, 0), (34, .if_icmp .gt 7, 3, 41, 0, 0, 0), (37, .iconst 1, 1, 0, 0, 0, 0), (38, .goto 4, 3, 42, 0, 0, 0), (41, .iconst 0, 1, 0, 0, 0, 0), (42, .iadd, 1, 0, 0, 0, 0), (43, .istore_n 1, 1, 0, 0, 0, 0), (44, .iinc 2 1, 3, 0, 0, 0, 0), (47, .goto (-40), 3, 7, 0, 0, 0), (50, .iload_n 1, 1, 0, 0, 0, 0), (51, .ireturn, 1, 0, 0, 0, 0)]
def x_t_X12_nextIn : List (Nat × x_Row) := [(0, .iconst 0, 1, 0, 0, 0, 0), (1, .istore_n 1, 1, 0, 0, 0, 0), (2, .iload_n 1, 1, 0, 0, 0, 0), (3, .aload_n 0, 1, 0, 0, 0, 0), (4, .getfield 400, 3, 11, 44, 1484, 0), (7, .if_icmp .ge 44, 3, 51, 0, 0, 0), (10, .aload_n 0, 1, 0, 0, 0, 0), (11, .getfield 80, 3, 11, 41, 1481, 0), (14, .aload_n 0, 1, 0, 0, 0, 0), (15, .getfield 83, 3, 11, 42, 1482, 0), (18, .iload_n 1, 1, 0, 0, 0, 0), (19, .iaload, 1, 0, 0, 0, 0), (20, .iaload, 1, 0, 0, 0, 0), (21, .aload_n 0, 1, 0, 0, 0, 0), (22, .getfield 486, 3, 11, 59, 1499, 0), (25, .if_icmp .le 20, 3, 45, 0, 0, 0), (28, .aload_n 0, 1, 0, 0, 0, 0), (29, .getfield 80, 3, 11, 41, 1481, 0), (32, .aload_n 0, 1, 0, 0, 0, 0), (33, .getfield 83, 3, 11, 42, 1482, 0), (36, .iload_n 1, 1, 0, 0, 0, 0), (37, .iaload, 1, 0, 0, 0, 0), (38, .iaload, 1, 0, 0, 0, 0), (39, .aload_n 0, 1, 0, 0, 0, 0), (40, .getfield 486, 3, 11, 59, 1499, 0), (43, .isub, 1, 0, 0, 0, 0), (44, .ireturn, 1, 0, 0, 0, 0), (45, .iinc 1 1, 3, 0, 0, 0, 0), (48, .goto (-46), 3, 2, 0, 0, 0), (51, .sipush 300, 3, 0, 0, 0, 0), (54, .ireturn, 1, 0, 0, 0, 0)]
def x_t_X12_asked : List (Nat × x_Row) := [(0, .iload_n 1, 1, 0, 0, 0, 0), (1, .bipush 15, 2, 0, 0, 0, 0), (3, .if_icmp .eq 9, 3, 12, 0, 0, 0), (6, .iload_n 1, 1, 0, 0, 0, 0), (7, .bipush 16, 2, 0, 0, 0, 0), (9, .if_icmp .ne 36, 3, 45, 0, 0, 0), (12, .aload_n 0, 1, 0, 0, 0, 0), (13, .getfield 492, 3, 11, 60, 1500, 0), (16, .iconst 1, 1, 0, 0, 0, 0), (17, .if_icmp .ne 7, 3, 24, 0, 0, 0), (20, .iconst 1, 1, 0, 0, 0, 0), (21, .goto 4, 3, 25, 0, 0, 0), (24, .iconst 0, 1, 0, 0, 0, 0), (25, .iload_n 1, 1, 0, 0, 0, 0), (26, .bipush 15, 2, 0, 0, 0, 0), (28, .if_icmp .ne 7, 3, 35, 0, 0, 0), (31, .iconst 1, 1, 0, 0, 0, 0), (32, .goto 4, 3, 36, 0, 0, 0), (35, .iconst 0, 1, 0, 0, 0, 0), (36, .if_icmp .ne 7, 3, 43, 0, 0, 0), (39, .iconst 1, 1, 0, 0, 0, 0), (40, .goto 4, 3, 44, 0, 0, 0), (43, .iconst 0, 1, 0, 0, 0, 0), (44, .ireturn, 1, 0, 0, 0, 0), (45, .iload_n 1, 1, 0, 0, 0, 0), (46, .ldc 184, 2, 0, 0, 1746, 100000), (48, .idiv, 1, 0, 0, 0, 0), (49, .istore_n 2, 1, 0, 0, 0, 0), (50, .iload_n 2, 1, 0, 0, 0, 0), (51, .bipush 22, 2, 0, 0, 0, 0), (53, .if_icmp .ne 10, 3, 63, 0, 0, 0), (56, .aload_n 0, 1, 0, 0, 0, 0), (57, .invokevirtual 495, 3, 291, 1, 2234, 0), (60, .goto 51, 3, 111, 0, 0, 0), (63, .iload_n 2, 1, 0, 0, 0, 0), (64, .bipush 23, 2, 0, 0, 0, 0), (66, .if_icmp .ne 10, 3, 76, 0, 0, 0), (69, .aload_n 0, 1, 0, 0, 0, 0), (70, .invokevirtual 498, 3, 292, 1, 2238, 0), (73, .goto 38, 3, 111, 0, 0, 0), (76, .iload_n 2, 1, 0, 0, 0, 0), (77, .bipush 24, 2, 0, 0, 0, 0), (79, .if_icmp .ne 10, 3, 89, 0, 0, 0), (82, .aload_n 0, 1, 0, 0, 0, 0), (83, .invokevirtual 501, 3, 293, 1, 2242, 0), (86, .goto 25, 3, 111, 0, 0, 0), (89, .iload_n 2, 1, 0, 0, 0, 0), (90, .bipush 25, 2, 0, 0, 0, 0), (92, .if_icmp .ne 10, 3, 102, 0, 0, 0), (95, .aload_n 0, 1, 0, 0, 0, 0), (96, .getfield 486, 3, 11, 59, 1499, 0), (99, .goto 12, 3, 111, 0, 0, 0), (102, .aload_n 0, 1, 0, 0, 0, 0), (103, .getfield 486, 3, 11, 59, 1499, 0), (106, .aload_n 0, 1, 0, 0, 0, 0), (107, .getfield 504, 3, 11, 63, 1503, 0), (110, .isub, 1, 0, 0, 0, 0), (111, .istore_n 3, 1, 0, 0, 0, 0), (112, .iload_n 1, 1, 0, 0, 0, 0), (113, .sipush 1000, 3, 0, 0, 0, 0), (116, .idiv, 1, 0, 0, 0, 0), (117, .bipush 100, 2, 0, 0, 0, 0), (119, .irem, 1, 0, 0, 0, 0), (120, .istore 4, 2, 0, 0, 0, 0), (122, .iload_n 1, 1, 0, 0, 0, 0), (123, .sipush 1000, 3, 0, 0, 0, 0), (126, .irem, 1, 0, 0, 0, 0), (127, .istore 5, 2, 0, 0, 0, 0), (129, .iload 4, 2, 0, 0, 0, 0), (131, .ifCond .ne 17, 3, 148, 0, 0, 0), (134, .iload_n 3, 1, 0, 0, 0, 0), (135, .iload 5, 2, 0, 0, 0, 0), (137, .if_icmp .ge 7, 3, 144, 0, 0, 0), (140, .iconst 1, 1, 0, 0, 0, 0), (141, .goto 38, 3, 179, 0, 0, 0), (144, .iconst 0, 1, 0, 0, 0, 0), (145, .goto 34, 3, 179, 0, 0, 0), (148, .iload 4, 2, 0, 0, 0, 0), (150, .iconst 1, 1, 0, 0, 0, 0), (151, .if_icmp .ne 17, 3, 168, 0, 0, 0), (154, .iload_n 3, 1, 0, 0, 0, 0), (155, .iload 5, 2, 0, 0, 0, 0), (157, .if_icmp .le 7, 3, 164, 0, 0, 0), (160, .iconst 1, 1, 0, 0, 0, 0), (161, .goto 18, 3, 179, 0, 0, 0), (164, .iconst 0, 1, 0, 0, 0, 0), (165, .goto 14, 3, 179, 0, 0, 0), (168, .iload_n 3, 1, 0, 0, 0, 0), (169, .iload 5, 2, 0, 0, 0, 0), (171, .if_icmp .ne 7, 3, 178, 0, 0, 0), (174, .iconst 1, 1, 0, 0, 0, 0), (175, .goto 4, 3, 179, 0, 0, 0), (178, .iconst 0, 1, 0, 0, 0, 0), (179, .ireturn, 1, 0, 0, 0, 0)]
def x_t_X12_holds : List (Nat × x_Row) := [(0, .iconst 0, 1, 0, 0, 0, 0), (1, .istore_n 2, 1, 0, 0, 0, 0), (2, .aload_n 0, 1, 0, 0, 0, 0), (3, .getfield 7, 3, 11, 0, 1440, 0), (6, .bipush 100, 2, 0, 0, 0, 0), (8, .iconst 3, 1, 0, 0, 0, 0), (9, .iload_n 1, 1, 0, 0, 0, 0), (10, .imul, 1, 0, 0, 0, 0), (11, .iadd, 1, 0, 0, 0, 0), (12, .iaload, 1, 0, 0, 0, 0), (13, .istore_n 3, 1, 0, 0, 0, 0), (14, .iload_n 3, 1, 0, 0, 0, 0), (15, .aload_n 0, 1, 0, 0, 0, 0), (16, .getfield 7, 3, 11, 0, 1440, 0), (19, .bipush 100, 2, 0, 0, 0, 0), (21, .iconst 3, 1, 0, 0, 0, 0), (22, .iload_n 1, 1, 0, 0, 0, 0), (23, .imul, 1, 0, 0, 0, 0), (24, .iadd, 1, 0, 0, 0, 0), (25, .iconst 1, 1, 0, 0, 0, 0), (26, .iadd, 1, 0, 0, 0, 0), (27, .iaload, 1, 0, 0, 0, 0), (28, .if_icmp .ge 158, 3, 186, 0, 0, 0), (31, .aload_n 0, 1, 0, 0, 0, 0), (32, .getfield 7, 3, 11, 0, 1440, 0), (35, .sipush 140, 3, 0, 0, 0, 0), (38, .iload_n 3, 1, 0, 0, 0, 0), (39, .iadd, 1, 0, 0, 0, 0), (40, .iaload, 1, 0, 0, 0, 0), (41, .istore 4, 2, 0, 0, 0, 0), (43, .iload 4, 2, 0, 0, 0, 0), (45, .bipush 20, 2, 0, 0, 0, 0), (47, .if_icmp .ne 30, 3, 77, 0, 0, 0), (50, .aload_n 0, 1, 0, 0, 0, 0), (51, .getfield 117, 3, 11, 72, 1512, 0), (54, .iload_n 2, 1, 0, 0, 0, 0), (55, .iconst 1, 1, 0, 0, 0, 0), (56, .isub, 1, 0, 0, 0, 0), (57, .aload_n 0, 1, 0, 0, 0, 0), (58, .getfield 117, 3, 11, 72, 1512, 0), (61, .iload_n 2, 1, 0, 0, 0, 0), (62, .iconst 1, 1, 0, 0, 0, 0), (63, .isub, 1, 0, 0, 0, 0), (64, .baload, 1, 0, 0, 0, 0), (65, .ifCond .ne 7, 3, 72, 0, 0, 0), (68, .iconst 1, 1, 0, 0, 0, 0), (69, .goto 4, 3, 73, 0, 0, 0), (72, .iconst 0, 1, 0, 0, 0, 0), (73, .bastore, 1, 0, 0, 0, 0), (74, .goto 106, 3, 180, 0, 0, 0), (77, .iload 4, 2, 0, 0, 0, 0), (79, .bipush 19, 2, 0, 0, 0, 0), (81, .if_icmp .eq 10, 3, 91, 0, 0, 0), (84, .iload 4, 2, 0, 0, 0, 0), (86, .bipush 18, 2, 0, 0, 0, 0), (88, .if_icmp .ne 77, 3, 165, 0, 0, 0), (91, .iinc 2 (-1), 3, 0, 0, 0, 0), (94, .aload_n 0, 1, 0, 0, 0, 0), (95, .getfield 117, 3, 11, 72, 1512, 0), (98, .iload_n 2, 1, 0, 0, 0, 0), (99, .iconst 1, 1, 0, 0, 0, 0), (100, .isub, 1, 0, 0, 0, 0), (101, .iload 4, 2, 0, 0, 0, 0), (103, .bipush 19, 2, 0, 0, 0, 0), (105, .if_icmp .ne 31, 3, 136, 0, 0, 0), (108, .aload_n 0, 1, 0, 0, 0, 0), (109, .getfield 117, 3, 11, 72, 1512, 0), (112, .iload_n 2, 1, 0, 0, 0, 0), (113, .iconst 1, 1, 0, 0, 0, 0), (114, .isub, 1, 0, 0, 0, 0), (115, .baload, 1, 0, 0, 0, 0), (116, .ifCond .eq 16, 3, 132, 0, 0, 0), (119, .aload_n 0, 1, 0, 0, 0, 0), (120, .getfield 117, 3, 11, 72, 1512, 0), (123, .iload_n 2, 1, 0, 0, 0, 0), (124, .baload, 1, 0, 0, 0, 0), (125, .ifCond .eq 7, 3, 132, 0, 0, 0), (128, .iconst 1, 1, 0, 0, 0, 0), (129, .goto 32, 3, 161, 0, 0, 0), (132, .iconst 0, 1, 0, 0, 0, 0), (133, .goto 28, 3, 161, 0, 0, 0), (136, .aload_n 0, 1, 0, 0, 0, 0), (137, .getfield 117, 3, 11, 72, 1512, 0), (140, .iload_n 2, 1, 0, 0, 0, 0), (141, .iconst 1, 1, 0, 0, 0, 0), (142, .isub, 1, 0, 0, 0, 0), (143, .baload, 1, 0, 0, 0, 0), (144, .ifCond .ne 12, 3, 156, 0, 0, 0), (147, .aload_n 0, 1, 0, 0, 0, 0), (148, .getfield 117, 3, 11, 72, 1512, 0), (151, .iload_n 2, 1, 0, 0, 0, 0), (152, .baload, 1, 0, 0, 0, 0), (153, .ifCond .eq 7, 3, 160, 0, 0, 0), (156, .iconst 1, 1, 0, 0, 0, 0), (157, .goto 4, 3, 161, 0, 0, 0), (160, .iconst 0, 1, 0, 0, 0, 0), (161, .bastore, 1, 0, 0, 0, 0), (162, .goto 18, 3, 180, 0, 0, 0), (165, .aload_n 0, 1, 0, 0, 0, 0), (166, .getfield 117, 3, 11, 72, 1512, 0), (169, .iload_n 2, 1, 0, 0, 0, 0), (170, .aload_n 0, 1, 0, 0, 0, 0), (171, .iload 4, 2, 0, 0, 0, 0), (173, .invokevirtual 507, 3, 294, 2, 2230, 0), (176, .bastore, 1, 0, 0, 0, 0), (177, .iinc 2 1, 3, 0, 0, 0, 0), (180, .iinc 3 1, 3, 0, 0, 0, 0), (183, .goto (-169), 3, 14, 0, 0, 0), (186, .aload_n 0, 1, 0, 0, 0, 0), (187, .getfield 117, 3, 11, 72, 1512, 0), (190, .iconst 0, 1, 0, 0, 0, 0), (191, .baload, 1, 0, 0, 0, 0), (192, .ireturn, 1, 0, 0, 0, 0)]
def x_t_X12_actNow : List (Nat × x_Row) := [(0, .iconst 0, 1, 0, 0, 0, 0), (1, .istore_n 1, 1, 0, 0, 0, 0), (2, .iload_n 1, 1, 0, 0, 0, 0), (3, .aload_n 0, 1, 0, 0, 0, 0), (4, .getfield 7, 3, 11, 0, 1440, 0), (7, .iconst 3, 1, 0, 0, 0, 0), (8, .iaload, 1, 0, 0, 0, 0), (9, .if_icmp .ge 31, 3, 40, 0, 0, 0), (12, .aload_n 0, 1, 0, 0, 0, 0), (13, .iload_n 1, 1, 0, 0, 0, 0), (14, .invokevirtual 510, 3, 295, 2, 2226, 0), (17, .ifCond .eq 17, 3, 34, 0, 0, 0), (20, .aload_n 0, 1, 0, 0, 0, 0), (21, .getfield 7, 3, 11, 0, 1440, 0), (24, .bipush 100, 2, 0, 0, 0, 0), (26, .iconst 3, 1, 0, 0, 0, 0), (27, .iload_n 1, 1, 0, 0, 0, 0), (28, .imul, 1, 0, 0, 0, 0), (29, .iadd, 1, 0, 0, 0, 0), (30, .iconst 2, 1, 0, 0, 0, 0), (31, .iadd, 1, 0, 0, 0, 0), (32, .iaload, 1, 0, 0, 0, 0), (33, .ireturn, 1, 0, 0, 0, 0), (34, .iinc 1 1, 3, 0, 0, 0, 0), (37, .goto (-35), 3, 2, 0, 0, 0), (40, .bipush 17, 2, 0, 0, 0, 0), (42, .ireturn, 1, 0, 0, 0, 0)]
def x_t_X12_passesOver : List (Nat × x_Row) := [(0, .aload_n 0, 1, 0, 0, 0, 0), (1, .getfield 483, 3, 11, 64, 1504, 0), (4, .aload_n 0, 1, 0, 0, 0, 0), (5, .getfield 400, 3, 11, 44, 1484, 0), (8, .if_icmp .ge 33, 3, 41, 0, 0, 0), (11, .aload_n 0, 1, 0, 0, 0, 0), (12, .getfield 113, 3, 11, 71, 1511, 0), (15, .aload_n 0, 1, 0, 0, 0, 0), (16, .getfield 83, 3, 11, 42, 1482, 0), (19, .aload_n 0, 1, 0, 0, 0, 0), (20, .getfield 483, 3, 11, 64, 1504, 0), (23, .iaload, 1, 0, 0, 0, 0), (24, .baload, 1, 0, 0, 0, 0), (25, .ifCond .eq 16, 3, 41, 0, 0, 0), (28, .aload_n 0, 1, 0, 0, 0, 0), (29, .dup, 1, 0, 0, 0, 0), (30, .getfield 483, 3, 11, 64, 1504, 0), (33, .iconst 1, 1, 0, 0, 0, 0), (34, .iadd, 1, 0, 0, 0, 0), (35, .putfield 483, 3, 11, 64, 1504, 0), (38, .goto (-38), 3, 0, 0, 0, 0), (41, .return_, 1, 0, 0, 0, 0)]
def x_t_X12_isBusy : List (Nat × x_Row) := [(0, .aload_n 0, 1, 0, 0, 0, 0), (1, .getfield 513, 3, 11, 61, 1501, 0), (4, .aload_n 0, 1, 0, 0, 0, 0), (5, .getfield 486, 3, 11, 59, 1499, 0), (8, .if_icmp .gt 14, 3, 22, 0, 0, 0), (11, .aload_n 0, 1, 0, 0, 0, 0), (12, .getfield 516, 3, 11, 62, 1502, 0), (15, .aload_n 0, 1, 0, 0, 0, 0), (16, .getfield 486, 3, 11, 59, 1499, 0), (19, .if_icmp .le 7, 3, 26, 0, 0, 0), (22, .iconst 1, 1, 0, 0, 0, 0), (23, .goto 4, 3, 27, 0, 0, 0), (26, .iconst 0, 1, 0, 0, 0, 0), (27, .ireturn, 1, 0, 0, 0, 0)]
def x_t_X12_strikes : List (Nat × x_Row) := [(0, .aload_n 0, 1, 0, 0, 0, 0), (1, .invokevirtual 519, 3, 297, 1, 2210, 0), (4, .aload_n 0, 1, 0, 0, 0, 0), (5, .getfield 483, 3, 11, 64, 1504, 0), (8, .istore_n 1, 1, 0, 0, 0, 0), (9, .iload_n 1, 1, 0, 0, 0, 0), (10, .aload_n 0, 1, 0, 0, 0, 0), (11, .getfield 400, 3, 11, 44, 1484, 0), (14, .if_icmp .ge 97, 3, 111, 0, 0, 0), (17, .aload_n 0, 1, 0, 0, 0, 0), (18, .getfield 83, 3, 11, 42, 1482, 0), (21, .iload_n 1, 1, 0, 0, 0, 0), (22, .iaload, 1, 0, 0, 0, 0), (23, .istore_n 2, 1, 0, 0, 0, 0), (24, .aload_n 0, 1, 0, 0, 0, 0), (25, .getfield 113, 3, 11, 71, 1511, 0), (28, .iload_n 2, 1, 0, 0, 0, 0), (29, .baload, 1, 0, 0, 0, 0), (30, .ifCond .ne 75, 3, 105, 0, 0, 0), (33, .aload_n 0, 1, 0, 0, 0, 0), (34, .iload_n 2, 1, 0, 0, 0, 0), (35, .iconst 4, 1, 0, 0, 0, 0), (36, .invokevirtual 417, 3, 262, 3, 2106, 0), (39, .ifCond .eq 66, 3, 105, 0, 0, 0), (42, .aload_n 0, 1, 0, 0, 0, 0), (43, .getfield 80, 3, 11, 41, 1481, 0), (46, .iload_n 2, 1, 0, 0, 0, 0), (47, .iaload, 1, 0, 0, 0, 0), (48, .aload_n 0, 1, 0, 0, 0, 0), (49, .getfield 486, 3, 11, 59, 1499, 0), (52, .if_icmp .eq 6, 3, 58, 0, 0, 0), (55, .goto 50, 3, 105, 0, 0, 0), (58, .aload_n 0, 1, 0, 0, 0, 0), (59, .invokevirtual 519, 3, 297, 1, 2210, 0), (62, .aload_n 0, 1, 0, 0, 0, 0), (63, .getfield 492, 3, 11, 60, 1500, 0), (66, .iconst 1, 1, 0, 0, 0, 0), (67, .if_icmp .ne 21, 3, 88, 0, 0, 0), (70, .aload_n 0, 1, 0, 0, 0, 0), (71, .invokevirtual 522, 3, 298, 1, 2218, 0), (74, .ifCond .ne 14, 3, 88, 0, 0, 0), (77, .aload_n 0, 1, 0, 0, 0, 0), (78, .getfield 483, 3, 11, 64, 1504, 0), (81, .iload_n 1, 1, 0, 0, 0, 0), (82, .if_icmp .ne 6, 3, 88, 0, 0, 0), (85, .goto 20, 3, 105, 0, 0, 0), (88, .aload_n 0, 1, 0, 0, 0, 0), (89, .getfield 113, 3, 11, 71, 1511, 0), (92, .iload_n 2, 1, 0, 0, 0, 0), (93, .iconst 1, 1, 0, 0, 0, 0), (94, .bastore, 1, 0, 0, 0, 0), (95, .aload_n 0, 1, 0, 0, 0, 0), (96, .dup, 1, 0, 0, 0, 0), (97, .getfield 525, 3, 11, 67, 1507, 0), (100, .iconst 1, 1, 0, 0, 0, 0), (101, .iadd, 1, 0, 0, 0, 0), (102, .putfield 525, 3, 11, 67, 1507, 0), (105, .iinc 1 1, 3, 0, 0, 0, 0), (108, .goto (-99), 3, 9, 0, 0, 0), (111, .aload_n 0, 1, 0, 0, 0, 0), (112, .invokevirtual 519, 3, 297, 1, 2210, 0), (115, .return_, 1, 0, 0, 0, 0)]
def x_t_X12_minuteGoes : List (Nat × x_Row) := [(0, .aload_n 0, 1, 0, 0, 0, 0), (1, .getfield 513, 3, 11, 61, 1501, 0), (4, .aload_n 0, 1, 0, 0, 0, 0), (5, .getfield 486, 3, 11, 59, 1499, 0), (8, .if_icmp .ne 26, 3, 34, 0, 0, 0), (11, .aload_n 0, 1, 0, 0, 0, 0), (12, .iconst 1, 1, 0, 0, 0, 0), (13, .aload_n 0, 1, 0, 0, 0, 0), (14, .getfield 492, 3, 11, 60, 1500, 0), (17, .isub, 1, 0, 0, 0, 0), (18, .putfield 492, 3, 11, 60, 1500, 0), (21, .aload_n 0, 1, 0, 0, 0, 0), (22, .aload_n 0, 1, 0, 0, 0, 0), (23, .getfield 486, 3, 11, 59, 1499, 0), (26, .putfield 504, 3, 11, 63, 1503, 0), (29, .aload_n 0, 1, 0, 0, 0, 0), (30, .iconst (-1), 1, 0, 0, 0, 0), (31, .putfield 513, 3, 11, 61, 1501, 0), (34, .aload_n 0, 1, 0, 0, 0, 0), (35, .invokevirtual 519, 3, 297, 1, 2210, 0), (38, .aload_n 0, 1, 0, 0, 0, 0), (39, .getfield 483, 3, 11, 64, 1504, 0), (42, .aload_n 0, 1, 0, 0, 0, 0), (43, .getfield 400, 3, 11, 44, 1484, 0), (46, .if_icmp .ne 34, 3, 80, 0, 0, 0), (49, .aload_n 0, 1, 0, 0, 0, 0), (50, .getfield 489, 3, 11, 65, 1505, 0), (53, .aload_n 0, 1, 0, 0, 0, 0), (54, .getfield 403, 3, 11, 45, 1485, 0), (57, .if_icmp .ne 23, 3, 80, 0, 0, 0), (60, .aload_n 0, 1, 0, 0, 0, 0), (61, .getfield 516, 3, 11, 62, 1502, 0), (64, .aload_n 0, 1, 0, 0, 0, 0), (65, .getfield 486, 3, 11, 59, 1499, 0), (68, .if_icmp .gt 12, 3, 80, 0, 0, 0), (71, .aload_n 0, 1, 0, 0, 0, 0), (72, .aload_n 0, 1, 0, 0, 0, 0), (73, .getfield 486, 3, 11, 59, 1499, 0), (76, .putfield 528, 3, 11, 69, 1509, 0), (79, .return_, 1, 0, 0, 0, 0), (80, .aload_n 0, 1, 0, 0, 0, 0), (81, .invokevirtual 531, 3, 299, 1, 2214, 0), (84, .aload_n 0, 1, 0, 0, 0, 0), (85, .invokevirtual 522, 3, 298, 1, 2218, 0), (88, .ifCond .ne 72, 3, 160, 0, 0, 0), (91, .aload_n 0, 1, 0, 0, 0, 0), (92, .invokevirtual 534, 3, 296, 1, 2222, 0), (95, .istore_n 1, 1, 0, 0, 0, 0), (96, .iload_n 1, 1, 0, 0, 0, 0), (97, .bipush 15, 2, 0, 0, 0, 0), (99, .if_icmp .ne 10, 3, 109, 0, 0, 0), (102, .aload_n 0, 1, 0, 0, 0, 0), (103, .getfield 492, 3, 11, 60, 1500, 0), (106, .ifCond .eq 17, 3, 123, 0, 0, 0), (109, .iload_n 1, 1, 0, 0, 0, 0), (110, .bipush 16, 2, 0, 0, 0, 0), (112, .if_icmp .ne 48, 3, 160, 0, 0, 0), (115, .aload_n 0, 1, 0, 0, 0, 0), (116, .getfield 492, 3, 11, 60, 1500, 0), (119, .iconst 1, 1, 0, 0, 0, 0), (120, .if_icmp .ne 40, 3, 160, 0, 0, 0), (123, .aload_n 0, 1, 0, 0, 0, 0), (124, .aload_n 0, 1, 0, 0, 0, 0), (125, .getfield 486, 3, 11, 59, 1499, 0), (128, .aload_n 0, 1, 0, 0, 0, 0), (129, .aload_n 0, 1, 0, 0, 0, 0), (130, .getfield 486, 3, 11, 59, 1499, 0), (133, .aload_n 0, 1, 0, 0, 0, 0), (134, .getfield 7, 3, 11, 0, 1440, 0), (137, .iconst 4, 1, 0, 0, 0, 0), (138, .iaload, 1, 0, 0, 0, 0), (139, .invokevirtual 429, 3, 264, 3, 2098, 0), (142, .iadd, 1, 0, 0, 0, 0), (143, .putfield 513, 3, 11, 61, 1501, 0), (146, .aload_n 0, 1, 0, 0, 0, 0), (147, .dup, 1, 0, 0, 0, 0), (148, .getfield 537, 3, 11, 68, 1508, 0), (151, .iconst 1, 1, 0, 0, 0, 0), (152, .iadd, 1, 0, 0, 0, 0), (153, .putfield 537, 3, 11, 68, 1508, 0), (156, .aload_n 0, 1, 0, 0, 0, 0), (157, .invokevirtual 531, 3, 299, 1, 2214, 0), (160, .aload_n 0, 1, 0, 0, 0, 0), (161, .invokevirtual 522, 3, 298, 1, 2218, 0), (164, .ifCond .eq 4, 3, 168, 0, 0, 0), (167, .return_, 1, 0, 0, 0, 0), (168, .aload_n 0, 1, 0, 0, 0, 0), (169, .getfield 492, 3, 11, 60, 1500, 0), (172, .iconst 1, 1, 0, 0, 0, 0), (173, .if_icmp .ne 110, 3, 283, 0, 0, 0), (176, .aload_n 0, 1, 0, 0, 0, 0), (177, .getfield 483, 3, 11, 64, 1504, 0), (180, .aload_n 0, 1, 0, 0, 0, 0), (181, .getfield 400, 3, 11, 44, 1484, 0), (184, .if_icmp .ge 99, 3, 283, 0, 0, 0), (187, .aload_n 0, 1, 0, 0, 0, 0), (188, .getfield 80, 3, 11, 41, 1481, 0), (191, .aload_n 0, 1, 0, 0, 0, 0), (192, .getfield 83, 3, 11, 42, 1482, 0), (195, .aload_n 0, 1, 0, 0, 0, 0), (196, .getfield 483, 3, 11, 64, 1504, 0), (199, .iaload, 1, 0, 0, 0, 0), (200, .iaload, 1, 0, 0, 0, 0), (201, .aload_n 0, 1, 0, 0, 0, 0), (202, .getfield 486, 3, 11, 59, 1499, 0), (205, .if_icmp .gt 78, 3, 283, 0, 0, 0), (208, .aload_n 0, 1, 0, 0, 0, 0), (209, .getfield 83, 3, 11, 42, 1482, 0), (212, .aload_n 0, 1, 0, 0, 0, 0), (213, .getfield 483, 3, 11, 64, 1504, 0), (216, .iaload, 1, 0, 0, 0, 0), (217, .istore_n 1, 1, 0, 0, 0, 0), (218, .aload_n 0, 1, 0, 0, 0, 0), (219, .dup, 1, 0, 0, 0, 0), (220, .getfield 540, 3, 11, 66, 1506, 0), (223, .aload_n 0, 1, 0, 0, 0, 0), (224, .getfield 486, 3, 11, 59, 1499, 0), (227, .aload_n 0, 1, 0, 0, 0, 0), (228, .getfield 80, 3, 11, 41, 1481, 0), (231, .iload_n 1, 1, 0, 0, 0, 0), (232, .iaload, 1, 0, 0, 0, 0), (233, .isub, 1, 0, 0, 0, 0), (234, .aload_n 0, 1, 0, 0, 0, 0), (235, .iload_n 1, 1, 0, 0, 0, 0), (236, .iconst 3, 1, 0, 0, 0, 0), (237, .invokevirtual 417, 3, 262, 3, 2106, 0), (240, .imul, 1, 0, 0, 0, 0), (241, .iadd, 1, 0, 0, 0, 0), (242, .putfield 540, 3, 11, 66, 1506, 0), (245, .aload_n 0, 1, 0, 0, 0, 0), (246, .aload_n 0, 1, 0, 0, 0, 0), (247, .getfield 486, 3, 11, 59, 1499, 0), (250, .aload_n 0, 1, 0, 0, 0, 0), (251, .iload_n 1, 1, 0, 0, 0, 0), (252, .iconst 2, 1, 0, 0, 0, 0), (253, .invokevirtual 417, 3, 262, 3, 2106, 0), (256, .iadd, 1, 0, 0, 0, 0), (257, .putfield 516, 3, 11, 62, 1502, 0), (260, .aload_n 0, 1, 0, 0, 0, 0), (261, .dup, 1, 0, 0, 0, 0), (262, .getfield 543, 3, 11, 70, 1510, 0), (265, .iconst 1, 1, 0, 0, 0, 0), (266, .iadd, 1, 0, 0, 0, 0), (267, .putfield 543, 3, 11, 70, 1510, 0), (270, .aload_n 0, 1, 0, 0, 0, 0), (271, .dup, 1, 0, 0, 0, 0), (272, .getfield 483, 3, 11, 64, 1504, 0), (275, .iconst 1, 1, 0, 0, 0, 0), (276, .iadd, 1, 0, 0, 0, 0), (277, .putfield 483, 3, 11, 64, 1504, 0), (280, .goto 110, 3, 390, 0, 0, 0), (283, .aload_n 0, 1, 0, 0, 0, 0), (284, .getfield 492, 3, 11, 60, 1500, 0), (287, .ifCond .ne 103, 3, 390, 0, 0, 0), (290, .aload_n 0, 1, 0, 0, 0, 0), (291, .getfield 489, 3, 11, 65, 1505, 0), (294, .aload_n 0, 1, 0, 0, 0, 0), (295, .getfield 403, 3, 11, 45, 1485, 0), (298, .if_icmp .ge 92, 3, 390, 0, 0, 0), (301, .aload_n 0, 1, 0, 0, 0, 0), (302, .getfield 80, 3, 11, 41, 1481, 0), (305, .bipush 6, 2, 0, 0, 0, 0), (307, .aload_n 0, 1, 0, 0, 0, 0), (308, .getfield 86, 3, 11, 43, 1483, 0), (311, .aload_n 0, 1, 0, 0, 0, 0), (312, .getfield 489, 3, 11, 65, 1505, 0), (315, .iaload, 1, 0, 0, 0, 0), (316, .iadd, 1, 0, 0, 0, 0), (317, .iaload, 1, 0, 0, 0, 0), (318, .aload_n 0, 1, 0, 0, 0, 0), (319, .getfield 486, 3, 11, 59, 1499, 0), (322, .if_icmp .gt 68, 3, 390, 0, 0, 0), (325, .aload_n 0, 1, 0, 0, 0, 0), (326, .getfield 86, 3, 11, 43, 1483, 0), (329, .aload_n 0, 1, 0, 0, 0, 0), (330, .getfield 489, 3, 11, 65, 1505, 0), (333, .iaload, 1, 0, 0, 0, 0), (334, .istore_n 1, 1, 0, 0, 0, 0), (335, .aload_n 0, 1, 0, 0, 0, 0), (336, .dup, 1, 0, 0, 0, 0), (337, .getfield 540, 3, 11, 66, 1506, 0), (340, .aload_n 0, 1, 0, 0, 0, 0), (341, .getfield 486, 3, 11, 59, 1499, 0), (344, .aload_n 0, 1, 0, 0, 0, 0), (345, .getfield 80, 3, 11, 41, 1481, 0), (348, .bipush 6, 2, 0, 0, 0, 0), (350, .iload_n 1, 1, 0, 0, 0, 0), (351, .iadd, 1, 0, 0, 0, 0), (352, .iaload, 1, 0, 0, 0, 0), (353, .isub, 1, 0, 0, 0, 0), (354, .aload_n 0, 1, 0, 0, 0, 0), (355, .iload_n 1, 1, 0, 0, 0, 0), (356, .iconst 2, 1, 0, 0, 0, 0), (357, .invokevirtual 423, 3, 263, 3, 2122, 0), (360, .imul, 1, 0, 0, 0, 0), (361, .iadd, 1, 0, 0, 0, 0), (362, .putfield 540, 3, 11, 66, 1506, 0), (365, .aload_n 0, 1, 0, 0, 0, 0), (366, .aload_n 0, 1, 0, 0, 0, 0), (367, .getfield 486, 3, 11, 59, 1499, 0), (370, .aload_n 0, 1, 0, 0, 0, 0), (371, .iload_n 1, 1, 0, 0, 0, 0), (372, .iconst 1, 1, 0, 0, 0, 0), (373, .invokevirtual 423, 3, 263, 3, 2122, 0), (376, .iadd, 1, 0, 0, 0, 0), (377, .putfield 516, 3, 11, 62, 1502, 0), (380, .aload_n 0, 1, 0, 0, 0, 0), (381, .dup, 1, 0, 0, 0, 0), (382, .getfield 489, 3, 11, 65, 1505, 0), (385, .iconst 1, 1, 0, 0, 0, 0), (386, .iadd, 1, 0, 0, 0, 0), (387, .putfield 489, 3, 11, 65, 1505, 0), (390, .return_, 1, 0, 0, 0, 0)]
def x_t_X12_leftOver : List (Nat × x_Row) := [(0, .aload_n 0, 1, 0, 0, 0, 0), (1, .getfield 403, 3, 11, 45, 1485, 0), (4, .aload_n 0, 1, 0, 0, 0, 0), (5, .getfield 489, 3, 11, 65, 1505, 0), (8, .isub, 1, 0, 0, 0, 0), (9, .istore_n 1, 1, 0, 0, 0, 0), (10, .aload_n 0, 1, 0, 0, 0, 0), (11, .getfield 483, 3, 11, 64, 1504, 0), (14, .istore_n 2, 1, 0, 0, 0, 0), (15, .iload_n 2, 1, 0, 0, 0, 0), (16, .aload_n 0, 1, 0, 0, 0, 0), (17, .getfield 400, 3, 11, 44, 1484, 0), (20, .if_icmp .ge 31, 3, 51, 0, 0, 0), (23, .iload_n 1, 1, 0, 0, 0, 0), (24, .aload_n 0, 1, 0, 0, 0, 0), (25, .getfield 113, 3, 11, 71, 1511, 0), (28, .aload_n 0, 1, 0, 0, 0, 0), (29, .getfield 83, 3, 11, 42, 1482, 0), (32, .iload_n 2, 1, 0, 0, 0, 0), (33, .iaload, 1, 0, 0, 0, 0), (34, .baload, 1, 0, 0, 0, 0), (35, .ifCond .eq 7, 3, 42, 0, 0, 0), (38, .iconst 0, 1, 0, 0, 0, 0), (39, .goto 4, 3, 43, 0, 0, 0), (42, .iconst 1, 1, 0, 0, 0, 0), (43, .iadd, 1, 0, 0, 0, 0), (44, .istore_n 1, 1, 0, 0, 0, 0), (45, .iinc 2 1, 3, 0, 0, 0, 0), (48, .goto (-33), 3, 15, 0, 0, 0), (51, .iload_n 1, 1, 0, 0, 0, 0), (52, .ireturn, 1, 0, 0, 0, 0)]
def x_t_X12_keeps : List (Nat × x_Row) := [(0, .aload_n 0, 1, 0, 0, 0, 0), (1, .invokevirtual 406, 3, 258, 1, 2066, 0), (4, .aload_n 0, 1, 0, 0, 0, 0), (5, .iload_n 1, 1, 0, 0, 0, 0), (6, .putfield 479, 3, 11, 58, 1498, 0), (9, .iconst 0, 1, 0, 0, 0, 0), (10, .istore_n 2, 1, 0, 0, 0, 0), (11, .iload_n 2, 1, 0, 0, 0, 0), (12, .aload_n 0, 1, 0, 0, 0, 0), (13, .getfield 7, 3, 11, 0, 1440, 0), (16, .iconst 1, 1, 0, 0, 0, 0), (17, .iaload, 1, 0, 0, 0, 0), (18, .if_icmp .ge 27, 3, 45, 0, 0, 0), (21, .iload_n 1, 1, 0, 0, 0, 0), (22, .iconst (-1), 1, 0, 0, 0, 0), (23, .if_icmp .eq 22, 3, 45, 0, 0, 0), (26, .aload_n 0, 1, 0, 0, 0, 0), (27, .getfield 80, 3, 11, 41, 1481, 0), (30, .iload_n 2, 1, 0, 0, 0, 0), (31, .dup2, 1, 0, 0, 0, 0), (32, .iaload, 1, 0, 0, 0, 0), (33, .aload_n 0, 1, 0, 0, 0, 0), (34, .invokevirtual 546, 3, 290, 1, 2201, 0), (37, .iadd, 1, 0, 0, 0, 0), (38, .iastore, 1, 0, 0, 0, 0), (39, .iinc 2 1, 3, 0, 0, 0, 0), (42, .goto (-31), 3, 11, 0, 0, 0), (45, .iconst 0, 1, 0, 0, 0, 0), (46, .istore_n 2, 1, 0, 0, 0, 0), (47, .iload_n 2, 1, 0, 0, 0, 0), (48, .aload_n 0, 1, 0, 0, 0, 0), (49, .getfield 7, 3, 11, 0, 1440, 0), (52, .iconst 2, 1, 0, 0, 0, 0), (53, .iaload, 1, 0, 0, 0, 0), (54, .if_icmp .ge 30, 3, 84, 0, 0, 0), (57, .iload_n 1, 1, 0, 0, 0, 0), (58, .iconst (-1), 1, 0, 0, 0, 0), (59, .if_icmp .eq 25, 3, 84, 0, 0, 0), (62, .aload_n 0, 1, 0, 0, 0, 0), (63, .getfield 80, 3, 11, 41, 1481, 0), (66, .bipush 6, 2, 0, 0, 0, 0), (68, .iload_n 2, 1, 0, 0, 0, 0), (69, .iadd, 1, 0, 0, 0, 0), (70, .dup2, 1, 0, 0, 0, 0), (71, .iaload, 1, 0, 0, 0, 0), (72, .aload_n 0, 1, 0, 0, 0, 0), (73, .invokevirtual 546, 3, 290, 1, 2201, 0), (76, .iadd, 1, 0, 0, 0, 0), (77, .iastore, 1, 0, 0, 0, 0), (78, .iinc 2 1, 3, 0, 0, 0, 0), (81, .goto (-34), 3, 47, 0, 0, 0), (84, .aload_n 0, 1, 0, 0, 0, 0), (85, .iconst 0, 1, 0, 0, 0, 0), (86, .invokevirtual 409, 3, 259, 2, 2070, 0), (89, .iconst 0, 1, 0, 0, 0, 0), (90, .istore_n 2, 1, 0, 0, 0, 0), (91, .iload_n 2, 1, 0, 0, 0, 0), (92, .bipush 6, 2, 0, 0, 0, 0), (94, .if_icmp .ge 16, 3, 110, 0, 0, 0), (97, .aload_n 0, 1, 0, 0, 0, 0), (98, .getfield 113, 3, 11, 71, 1511, 0), (101, .iload_n 2, 1, 0, 0, 0, 0), (102, .iconst 0, 1, 0, 0, 0, 0), (103, .bastore, 1, 0, 0, 0, 0), (104, .iinc 2 1, 3, 0, 0, 0, 0), (107, .goto (-16), 3, 91, 0, 0, 0), (110, .aload_n 0, 1, 0, 0, 0, 0), (111, .iconst 0, 1, 0, 0, 0, 0), (112, .putfield 492, 3, 11, 60, 1500, 0), (115, .aload_n 0, 1, 0, 0, 0, 0), (116, .iconst (-1), 1, 0, 0, 0, 0), (117, .putfield 513, 3, 11, 61, 1501, 0), (120, .aload_n 0, 1, 0, 0, 0, 0), (121, .iconst (-1), 1, 0, 0, 0, 0), (122, .putfield 516, 3, 11, 62, 1502, 0), (125, .aload_n 0, 1, 0, 0, 0, 0), (126, .iconst 0, 1, 0, 0, 0, 0), (127, .putfield 504, 3, 11, 63, 1503, 0), (130, .aload_n 0, 1, 0, 0, 0, 0), (131, .iconst 0, 1, 0, 0, 0, 0), (132, .putfield 483, 3, 11, 64, 1504, 0), (135, .aload_n 0, 1, 0, 0, 0, 0), (136, .iconst 0, 1, 0, 0, 0, 0), (137, .putfield 489, 3, 11, 65, 1505, 0), (140, .aload_n 0, 1, 0, 0, 0, 0), (141, .iconst 0, 1, 0, 0, 0, 0), (142, .putfield 540, 3, 11, 66, 1506, 0), (145, .aload_n 0, 1, 0, 0, 0, 0), (146, .iconst 0, 1, 0, 0, 0, 0), (147, .putfield 525, 3, 11, 67, 1507, 0), (150, .aload_n 0, 1, 0, 0, 0, 0), (151, .iconst 0, 1, 0, 0, 0, 0), (152, .putfield 537, 3, 11, 68, 1508, 0), (155, .aload_n 0, 1, 0, 0, 0, 0), (156, .iconst 0, 1, 0, 0, 0, 0), (157, .putfield 543, 3, 11, 70, 1510, 0), (160, .aload_n 0, 1, 0, 0, 0, 0), (161, .iconst (-1), 1, 0, 0, 0, 0), (162, .putfield 528, 3, 11, 69, 1509, 0), (165, .aload_n 0, 1, 0, 0, 0, 0), (166, .iconst 0, 1, 0, 0, 0, 0), (167, .putfield 486, 3, 11, 59, 1499, 0), (170, .aload_n 0, 1, 0, 0, 0, 0), (171, .getfield 486, 3, 11, 59, 1499, 0), (174, .sipush 301, 3, 0, 0, 0, 0), (177, .if_icmp .ge 28, 3, 205, 0, 0, 0), (180, .aload_n 0, 1, 0, 0, 0, 0), (181, .getfield 528, 3, 11, 69, 1509, 0), (184, .iconst (-1), 1, 0, 0, 0, 0), (185, .if_icmp .ne 20, 3, 205, 0, 0, 0), (188, .aload_n 0, 1, 0, 0, 0, 0), (189, .invokevirtual 549, 3, 300, 1, 2206, 0), (192, .aload_n 0, 1, 0, 0, 0, 0), (193, .dup, 1, 0, 0, 0, 0), (194, .getfield 486, 3, 11, 59, 1499, 0), (197, .iconst 1, 1, 0, 0, 0, 0), (198, .iadd, 1, 0, 0, 0, 0), (199, .putfield 486, 3, 11, 59, 1499, 0), (202, .goto (-32), 3, 170, 0, 0, 0), (205, .aload_n 0, 1, 0, 0, 0, 0), (206, .getfield 528, 3, 11, 69, 1509, 0), (209, .iconst (-1), 1, 0, 0, 0, 0), (210, .if_icmp .ne 10, 3, 220, 0, 0, 0), (213, .aload_n 0, 1, 0, 0, 0, 0), (214, .sipush 301, 3, 0, 0, 0, 0), (217, .putfield 528, 3, 11, 69, 1509, 0), (220, .aload_n 0, 1, 0, 0, 0, 0), (221, .invokevirtual 519, 3, 297, 1, 2210, 0), (224, .return_, 1, 0, 0, 0, 0)]
def x_t_X12_keep : List (Nat × x_Row) := [(0, .iload_n 1, 1, 0, 0, 0, 0), (1, .iconst (-1), 1, 0, 0, 0, 0), (2, .if_icmp .eq 21, 3, 23, 0, 0, 0), (5, .iload_n 1, 1, 0, 0, 0, 0), (6, .i2l, 1, 0, 0, 0, 0), (7, .lconst 0, 1, 0, 0, 0, 0), (8, .ldc2_w 552, 3, 0, 0, 2196, 9999), (11, .invokestatic 349, 3, 188, 3, 1977, 0), (14, .ifCond .ne 9, 3, 23, 0, 0, 0), (17, .aload_n 0, 1, 0, 0, 0, 0), (18, .iconst 1, 1, 0, 0, 0, 0), (19, .invokevirtual 129, 3, 176, 2, 1748, 0), (22, .ireturn, 1, 0, 0, 0, 0), (23, .aload_n 0, 1, 0, 0, 0, 0), (24, .getfield 7, 3, 11, 0, 1440, 0), (27, .bipush 8, 2, 0, 0, 0, 0), (29, .iaload, 1, 0, 0, 0, 0), (30, .ifCond .ne 10, 3, 40, 0, 0, 0), (33, .aload_n 0, 1, 0, 0, 0, 0), (34, .bipush 6, 2, 0, 0, 0, 0), (36, .invokevirtual 129, 3, 176, 2, 1748, 0), (39, .ireturn, 1, 0, 0, 0, 0), (40, .aload_n 0, 1, 0, 0, 0, 0), (41, .iload_n 1, 1, 0, 0, 0, 0), (42, .invokevirtual 554, 3, 302, 2, 2197, 0), (45, .aload_n 0, 1, 0, 0, 0, 0), (46, .getfield 120, 3, 11, 73, 1513, 0), (49, .iconst 0, 1, 0, 0, 0, 0), (50, .aload_n 0, 1, 0, 0, 0, 0), (51, .getfield 525, 3, 11, 67, 1507, 0), (54, .iastore, 1, 0, 0, 0, 0), (55, .aload_n 0, 1, 0, 0, 0, 0), (56, .getfield 120, 3, 11, 73, 1513, 0), (59, .iconst 1, 1, 0, 0, 0, 0), (60, .aload_n 0, 1, 0, 0, 0, 0), (61, .getfield 537, 3, 11, 68, 1508, 0), (64, .iastore, 1, 0, 0, 0, 0), (65, .aload_n 0, 1, 0, 0, 0, 0), (66, .getfield 120, 3, 11, 73, 1513, 0), (69, .iconst 2, 1, 0, 0, 0, 0), (70, .aload_n 0, 1, 0, 0, 0, 0), (71, .getfield 528, 3, 11, 69, 1509, 0), (74, .iastore, 1, 0, 0, 0, 0), (75, .aload_n 0, 1, 0, 0, 0, 0), (76, .getfield 120, 3, 11, 73, 1513, 0), (79, .iconst 3, 1, 0, 0, 0, 0), (80, .aload_n 0, 1, 0, 0, 0, 0), (81, .invokevirtual 557, 3, 301, 1, 2246, 0), (84, .iastore, 1, 0, 0, 0, 0), (85, .aload_n 0, 1, 0, 0, 0, 0), (86, .getfield 120, 3, 11, 73, 1513, 0), (89, .iconst 4, 1, 0, 0, 0, 0), (90, .aload_n 0, 1, 0, 0, 0, 0), (91, .getfield 543, 3, 11, 70, 1510, 0), (94, .iastore, 1, 0, 0, 0, 0), (95, .aload_n 0, 1, 0, 0, 0, 0), (96, .iconst 1, 1, 0, 0, 0, 0), (97, .putfield 560, 3, 11, 74, 1514, 0), (100, .aload_n 0, 1, 0, 0, 0, 0), (101, .aload_n 0, 1, 0, 0, 0, 0), (102, .getfield 540, 3, 11, 66, 1506, 0), (105, .invokevirtual 133, 3, 177, 2, 1873, 0), (108, .ireturn, 1, 0, 0, 0, 0)]
def x_t_X12_kept : List (Nat × x_Row) := [(0, .iload_n 1, 1, 0, 0, 0, 0), (1, .ifCond .lt 8, 3, 9, 0, 0, 0), (4, .iload_n 1, 1, 0, 0, 0, 0), (5, .iconst 4, 1, 0, 0, 0, 0), (6, .if_icmp .le 11, 3, 17, 0, 0, 0), (9, .aload_n 0, 1, 0, 0, 0, 0), (10, .iconst 1, 1, 0, 0, 0, 0), (11, .invokevirtual 129, 3, 176, 2, 1748, 0), (14, .goto 29, 3, 43, 0, 0, 0), (17, .aload_n 0, 1, 0, 0, 0, 0), (18, .getfield 560, 3, 11, 74, 1514, 0), (21, .ifCond .eq 16, 3, 37, 0, 0, 0), (24, .aload_n 0, 1, 0, 0, 0, 0), (25, .aload_n 0, 1, 0, 0, 0, 0), (26, .getfield 120, 3, 11, 73, 1513, 0), (29, .iload_n 1, 1, 0, 0, 0, 0), (30, .iaload, 1, 0, 0, 0, 0), (31, .invokevirtual 133, 3, 177, 2, 1873, 0), (34, .goto 9, 3, 43, 0, 0, 0), (37, .aload_n 0, 1, 0, 0, 0, 0), (38, .bipush 6, 2, 0, 0, 0, 0), (40, .invokevirtual 129, 3, 176, 2, 1748, 0), (43, .ireturn, 1, 0, 0, 0, 0)]
def x_t_X12_areSeeds : List (Nat × x_Row) := [(0, .iload_n 1, 1, 0, 0, 0, 0), (1, .i2l, 1, 0, 0, 0, 0), (2, .lconst 0, 1, 0, 0, 0, 0), (3, .ldc2_w 552, 3, 0, 0, 2196, 9999), (6, .invokestatic 349, 3, 188, 3, 1977, 0), (9, .ifCond .eq 30, 3, 39, 0, 0, 0), (12, .iload_n 2, 1, 0, 0, 0, 0), (13, .i2l, 1, 0, 0, 0, 0), (14, .lconst 1, 1, 0, 0, 0, 0), (15, .ldc2_w 466, 3, 0, 0, 2150, 20), (18, .invokestatic 349, 3, 188, 3, 1977, 0), (21, .ifCond .eq 18, 3, 39, 0, 0, 0), (24, .iload_n 1, 1, 0, 0, 0, 0), (25, .iload_n 2, 1, 0, 0, 0, 0), (26, .iadd, 1, 0, 0, 0, 0), (27, .iconst 1, 1, 0, 0, 0, 0), (28, .isub, 1, 0, 0, 0, 0), (29, .sipush 9999, 3, 0, 0, 0, 0), (32, .if_icmp .gt 7, 3, 39, 0, 0, 0), (35, .iconst 1, 1, 0, 0, 0, 0), (36, .goto 4, 3, 40, 0, 0, 0), (39, .iconst 0, 1, 0, 0, 0, 0), (40, .ireturn, 1, 0, 0, 0, 0)]
def x_t_X12_odds : List (Nat × x_Row) := [(0, .aload_n 0, 1, 0, 0, 0, 0), (1, .iload_n 1, 1, 0, 0, 0, 0), (2, .iload_n 2, 1, 0, 0, 0, 0), (3, .invokevirtual 564, 3, 305, 3, 2258, 0), (6, .ifCond .ne 9, 3, 15, 0, 0, 0), (9, .aload_n 0, 1, 0, 0, 0, 0), (10, .iconst 1, 1, 0, 0, 0, 0), (11, .invokevirtual 136, 3, 175, 2, 1688, 0), (14, .ireturn, 1, 0, 0, 0, 0), (15, .aload_n 0, 1, 0, 0, 0, 0), (16, .getfield 7, 3, 11, 0, 1440, 0), (19, .bipush 8, 2, 0, 0, 0, 0), (21, .iaload, 1, 0, 0, 0, 0), (22, .ifCond .ne 10, 3, 32, 0, 0, 0), (25, .aload_n 0, 1, 0, 0, 0, 0), (26, .bipush 6, 2, 0, 0, 0, 0), (28, .invokevirtual 136, 3, 175, 2, 1688, 0), (31, .ireturn, 1, 0, 0, 0, 0), (32, .iconst 0, 1, 0, 0, 0, 0), (33, .istore_n 3, 1, 0, 0, 0, 0), (34, .iconst 0, 1, 0, 0, 0, 0), (35, .istore 4, 2, 0, 0, 0, 0), (37, .iload 4, 2, 0, 0, 0, 0), (39, .iload_n 2, 1, 0, 0, 0, 0), (40, .if_icmp .ge 39, 3, 79, 0, 0, 0), (43, .aload_n 0, 1, 0, 0, 0, 0), (44, .iload_n 1, 1, 0, 0, 0, 0), (45, .iload 4, 2, 0, 0, 0, 0), (47, .iadd, 1, 0, 0, 0, 0), (48, .invokevirtual 554, 3, 302, 2, 2197, 0), (51, .iload_n 3, 1, 0, 0, 0, 0), (52, .aload_n 0, 1, 0, 0, 0, 0), (53, .getfield 525, 3, 11, 67, 1507, 0), (56, .ifCond .ne 14, 3, 70, 0, 0, 0), (59, .aload_n 0, 1, 0, 0, 0, 0), (60, .invokevirtual 557, 3, 301, 1, 2246, 0), (63, .ifCond .ne 7, 3, 70, 0, 0, 0), (66, .iconst 1, 1, 0, 0, 0, 0), (67, .goto 4, 3, 71, 0, 0, 0), (70, .iconst 0, 1, 0, 0, 0, 0), (71, .iadd, 1, 0, 0, 0, 0), (72, .istore_n 3, 1, 0, 0, 0, 0), (73, .iinc 4 1, 3, 0, 0, 0, 0), (76, .goto (-39), 3, 37, 0, 0, 0), (79, .aload_n 0, 1, 0, 0, 0, 0), (80, .iload_n 3, 1, 0, 0, 0, 0), (81, .i2l, 1, 0, 0, 0, 0), (82, .iload_n 2, 1, 0, 0, 0, 0), (83, .i2l, 1, 0, 0, 0, 0), (84, .invokevirtual 374, 3, 180, 3, 2015, 0), (87, .ireturn, 1, 0, 0, 0, 0)]
def x_t_X12_waits : List (Nat × x_Row) := [(0, .aload_n 0, 1, 0, 0, 0, 0), (1, .iload_n 1, 1, 0, 0, 0, 0), (2, .iload_n 2, 1, 0, 0, 0, 0), (3, .invokevirtual 564, 3, 305, 3, 2258, 0), (6, .ifCond .ne 9, 3, 15, 0, 0, 0), (9, .aload_n 0, 1, 0, 0, 0, 0), (10, .iconst 1, 1, 0, 0, 0, 0), (11, .invokevirtual 129, 3, 176, 2, 1748, 0), (14, .ireturn, 1, 0, 0, 0, 0), (15, .aload_n 0, 1, 0, 0, 0, 0), (16, .getfield 7, 3, 11, 0, 1440, 0), (19, .bipush 8, 2, 0, 0, 0, 0), (21, .iaload, 1, 0, 0, 0, 0), (22, .ifCond .ne 10, 3, 32, 0, 0, 0), (25, .aload_n 0, 1, 0, 0, 0, 0), (26, .bipush 6, 2, 0, 0, 0, 0), (28, .invokevirtual 129, 3, 176, 2, 1748, 0), (31, .ireturn, 1, 0, 0, 0, 0), (32, .iconst 0, 1, 0, 0, 0, 0), (33, .istore_n 3, 1, 0, 0, 0, 0), (34, .iconst 0, 1, 0, 0, 0, 0), (35, .istore 4, 2, 0, 0, 0, 0), (37, .iload 4, 2, 0, 0, 0, 0), (39, .iload_n 2, 1, 0, 0, 0, 0), (40, .if_icmp .ge 24, 3, 64, 0, 0, 0), (43, .aload_n 0, 1, 0, 0, 0, 0), (44, .iload_n 1, 1, 0, 0, 0, 0), (45, .iload 4, 2, 0, 0, 0, 0), (47, .iadd, 1, 0, 0, 0, 0), (48, .invokevirtual 554, 3, 302, 2, 2197, 0), (51, .iload_n 3, 1, 0, 0, 0, 0), (52, .aload_n 0, 1, 0, 0, 0, 0), (53, .getfield 540, 3, 11, 66, 1506, 0), (56, .iadd, 1, 0, 0, 0, 0), (57, .istore_n 3, 1, 0, 0, 0, 0), (58, .iinc 4 1, 3, 0, 0, 0, 0), (61, .goto (-24), 3, 37, 0, 0, 0), (64, .aload_n 0, 1, 0, 0, 0, 0), (65, .iload_n 3, 1, 0, 0, 0, 0), (66, .invokevirtual 133, 3, 177, 2, 1873, 0), (69, .ireturn, 1, 0, 0, 0, 0)]
def x_t_X12_copies : List (Nat × x_Row) := [(0, .iconst 0, 1, 0, 0, 0, 0), (1, .istore_n 3, 1, 0, 0, 0, 0), (2, .iload_n 3, 1, 0, 0, 0, 0), (3, .sipush 350, 3, 0, 0, 0, 0), (6, .if_icmp .ge 33, 3, 39, 0, 0, 0), (9, .aload_n 0, 1, 0, 0, 0, 0), (10, .getfield 7, 3, 11, 0, 1440, 0), (13, .sipush 350, 3, 0, 0, 0, 0), (16, .iload_n 2, 1, 0, 0, 0, 0), (17, .imul, 1, 0, 0, 0, 0), (18, .iload_n 3, 1, 0, 0, 0, 0), (19, .iadd, 1, 0, 0, 0, 0), (20, .aload_n 0, 1, 0, 0, 0, 0), (21, .getfield 7, 3, 11, 0, 1440, 0), (24, .sipush 350, 3, 0, 0, 0, 0), (27, .iload_n 1, 1, 0, 0, 0, 0), (28, .imul, 1, 0, 0, 0, 0), (29, .iload_n 3, 1, 0, 0, 0, 0), (30, .iadd, 1, 0, 0, 0, 0), (31, .iaload, 1, 0, 0, 0, 0), (32, .iastore, 1, 0, 0, 0, 0), (33, .iinc 3 1, 3, 0, 0, 0, 0), (36, .goto (-34), 3, 2, 0, 0, 0), (39, .iconst 0, 1, 0, 0, 0, 0), (40, .istore_n 3, 1, 0, 0, 0, 0), (41, .iload_n 3, 1, 0, 0, 0, 0), (42, .bipush 18, 2, 0, 0, 0, 0), (44, .if_icmp .ge 31, 3, 75, 0, 0, 0), (47, .aload_n 0, 1, 0, 0, 0, 0), (48, .getfield 13, 3, 11, 1, 1441, 0), (51, .bipush 18, 2, 0, 0, 0, 0), (53, .iload_n 2, 1, 0, 0, 0, 0), (54, .imul, 1, 0, 0, 0, 0), (55, .iload_n 3, 1, 0, 0, 0, 0), (56, .iadd, 1, 0, 0, 0, 0), (57, .aload_n 0, 1, 0, 0, 0, 0), (58, .getfield 13, 3, 11, 1, 1441, 0), (61, .bipush 18, 2, 0, 0, 0, 0), (63, .iload_n 1, 1, 0, 0, 0, 0), (64, .imul, 1, 0, 0, 0, 0), (65, .iload_n 3, 1, 0, 0, 0, 0), (66, .iadd, 1, 0, 0, 0, 0), (67, .laload, 1, 0, 0, 0, 0), (68, .lastore, 1, 0, 0, 0, 0), (69, .iinc 3 1, 3, 0, 0, 0, 0), (72, .goto (-31), 3, 41, 0, 0, 0), (75, .return_, 1, 0, 0, 0, 0)]
def x_t_X12_mark : List (Nat × x_Row) := [(0, .aload_n 0, 1, 0, 0, 0, 0), (1, .getfield 567, 3, 11, 75, 1515, 0), (4, .iconst 3, 1, 0, 0, 0, 0), (5, .if_icmp .ne 9, 3, 14, 0, 0, 0), (8, .aload_n 0, 1, 0, 0, 0, 0), (9, .iconst 4, 1, 0, 0, 0, 0), (10, .invokevirtual 129, 3, 176, 2, 1748, 0), (13, .ireturn, 1, 0, 0, 0, 0), (14, .aload_n 0, 1, 0, 0, 0, 0), (15, .dup, 1, 0, 0, 0, 0), (16, .getfield 567, 3, 11, 75, 1515, 0), (19, .iconst 1, 1, 0, 0, 0, 0), (20, .iadd, 1, 0, 0, 0, 0), (21, .putfield 567, 3, 11, 75, 1515, 0), (24, .aload_n 0, 1, 0, 0, 0, 0), (25, .iconst 0, 1, 0, 0, 0, 0), (26, .aload_n 0, 1, 0, 0, 0, 0), (27, .getfield 567, 3, 11, 75, 1515, 0), (30, .invokevirtual 570, 3, 308, 3, 2270, 0), (33, .aload_n 0, 1, 0, 0, 0, 0), (34, .aload_n 0, 1, 0, 0, 0, 0), (35, .getfield 567, 3, 11, 75, 1515, 0), (38, .invokevirtual 133, 3, 177, 2, 1873, 0), (41, .ireturn, 1, 0, 0, 0, 0)]
def x_t_X12_back : List (Nat × x_Row) := [(0, .aload_n 0, 1, 0, 0, 0, 0), (1, .getfield 567, 3, 11, 75, 1515, 0), (4, .ifCond .ne 10, 3, 14, 0, 0, 0), (7, .aload_n 0, 1, 0, 0, 0, 0), (8, .bipush 6, 2, 0, 0, 0, 0), (10, .invokevirtual 129, 3, 176, 2, 1748, 0), (13, .ireturn, 1, 0, 0, 0, 0), (14, .aload_n 0, 1, 0, 0, 0, 0), (15, .aload_n 0, 1, 0, 0, 0, 0), (16, .getfield 567, 3, 11, 75, 1515, 0), (19, .iconst 0, 1, 0, 0, 0, 0), (20, .invokevirtual 570, 3, 308, 3, 2270, 0), (23, .aload_n 0, 1, 0, 0, 0, 0), (24, .dup, 1, 0, 0, 0, 0), (25, .getfield 567, 3, 11, 75, 1515, 0), (28, .iconst 1, 1, 0, 0, 0, 0), (29, .isub, 1, 0, 0, 0, 0), (30, .putfield 567, 3, 11, 75, 1515, 0), (33, .aload_n 0, 1, 0, 0, 0, 0), (34, .aload_n 0, 1, 0, 0, 0, 0), (35, .getfield 567, 3, 11, 75, 1515, 0), (38, .invokevirtual 133, 3, 177, 2, 1873, 0), (41, .ireturn, 1, 0, 0, 0, 0)]
def x_t_J6_numberOfLeadingZeros_0f7a4 : List (Nat × x_Row) := [(0, .iload_n 0, 1, 0, 0, 0, 0), (1, .ifCond .gt 14, 3, 15, 0, 0, 0), (4, .iload_n 0, 1, 0, 0, 0, 0), (5, .ifCond .ne 8, 3, 13, 0, 0, 0), (8, .bipush 32, 2, 0, 0, 0, 0), (10, .goto 4, 3, 14, 0, 0, 0), (13, .iconst 0, 1, 0, 0, 0, 0), (14, .ireturn, 1, 0, 0, 0, 0), (15, .bipush 31, 2, 0, 0, 0, 0), (17, .istore_n 1, 1, 0, 0, 0, 0), (18, .iload_n 0, 1, 0, 0, 0, 0), (19, .ldc_w 264, 3, 0, 0, 1076, 65536), (22, .if_icmp .lt 11, 3, 33, 0, 0, 0), (25, .iinc 1 (-16), 3, 0, 0, 0, 0), (28, .iload_n 0, 1, 0, 0, 0, 0), (29, .bipush 16, 2, 0, 0, 0, 0), (31, .iushr, 1, 0, 0, 0, 0), (32, .istore_n 0, 1, 0, 0, 0, 0), (33, .iload_n 0, 1, 0, 0, 0, 0), (34, .sipush 256, 3, 0, 0, 0, 0), (37, .if_icmp .lt 11, 3, 48, 0, 0, 0), (40, .iinc 1 (-8), 3, 0, 0, 0, 0), (43, .iload_n 0, 1, 0, 0, 0, 0), (44, .bipush 8, 2, 0, 0, 0, 0), (46, .iushr, 1, 0, 0, 0, 0), (47, .istore_n 0, 1, 0, 0, 0, 0), (48, .iload_n 0, 1, 0, 0, 0, 0), (49, .bipush 16, 2, 0, 0, 0, 0), (51, .if_icmp .lt 10, 3, 61, 0, 0, 0), (54, .iinc 1 (-4), 3, 0, 0, 0, 0), (57, .iload_n 0, 1, 0, 0, 0, 0), (58, .iconst 4, 1, 0, 0, 0, 0), (59, .iushr, 1, 0, 0, 0, 0), (60, .istore_n 0, 1, 0, 0, 0, 0), (61, .iload_n 0, 1, 0, 0, 0, 0), (62, .iconst 4, 1, 0, 0, 0, 0), (63, .if_icmp .lt 10, 3, 73, 0, 0, 0), (66, .iinc 1 (-2), 3, 0, 0, 0, 0), (69, .iload_n 0, 1, 0, 0, 0, 0), (70, .iconst 2, 1, 0, 0, 0, 0), (71, .iushr, 1, 0, 0, 0, 0), (72, .istore_n 0, 1, 0, 0, 0, 0), (73, .iload_n 1, 1, 0, 0, 0, 0), (74, .iload_n 0, 1, 0, 0, 0, 0), (75, .iconst 1, 1, 0, 0, 0, 0), (76, .iushr, 1, 0, 0, 0, 0), (77, .isub, 1, 0, 0, 0, 0), (78, .ireturn, 1, 0, 0, 0, 0)]
def x_t_J6_numberOfTrailingZeros_0f7a4 : List (Nat × x_Row) := [(0, .iload_n 0, 1, 0, 0, 0, 0), (1, .iconst (-1), 1, 0, 0, 0, 0), (2, .ixor, 1, 0, 0, 0, 0), (3, .iload_n 0, 1, 0, 0, 0, 0), (4, .iconst 1, 1, 0, 0, 0, 0), (5, .isub, 1, 0, 0, 0, 0), (6, .iand, 1, 0, 0, 0, 0), (7, .istore_n 0, 1, 0, 0, 0, 0), (8, .iload_n 0, 1, 0, 0, 0, 0), (9, .ifCond .gt 8, 3, 17, 0, 0, 0), (12, .iload_n 0, 1, 0, 0, 0, 0), (13, .bipush 32, 2, 0, 0, 0, 0), (15, .iand, 1, 0, 0, 0, 0), (16, .ireturn, 1, 0, 0, 0, 0), (17, .iconst 1, 1, 0, 0, 0, 0), (18, .istore_n 1, 1, 0, 0, 0, 0), (19, .iload_n 0, 1, 0, 0, 0, 0), (20, .ldc_w 264, 3, 0, 0, 1076, 65536), (23, .if_icmp .le 11, 3, 34, 0, 0, 0), (26, .iinc 1 16, 3, 0, 0, 0, 0), (29, .iload_n 0, 1, 0, 0, 0, 0), (30, .bipush 16, 2, 0, 0, 0, 0), (32, .iushr, 1, 0, 0, 0, 0), (33, .istore_n 0, 1, 0, 0, 0, 0), (34, .iload_n 0, 1, 0, 0, 0, 0), (35, .sipush 256, 3, 0, 0, 0, 0), (38, .if_icmp .le 11, 3, 49, 0, 0, 0), (41, .iinc 1 8, 3, 0, 0, 0, 0), (44, .iload_n 0, 1, 0, 0, 0, 0), (45, .bipush 8, 2, 0, 0, 0, 0), (47, .iushr, 1, 0, 0, 0, 0), (48, .istore_n 0, 1, 0, 0, 0, 0), (49, .iload_n 0, 1, 0, 0, 0, 0), (50, .bipush 16, 2, 0, 0, 0, 0), (52, .if_icmp .le 10, 3, 62, 0, 0, 0), (55, .iinc 1 4, 3, 0, 0, 0, 0), (58, .iload_n 0, 1, 0, 0, 0, 0), (59, .iconst 4, 1, 0, 0, 0, 0), (60, .iushr, 1, 0, 0, 0, 0), (61, .istore_n 0, 1, 0, 0, 0, 0), (62, .iload_n 0, 1, 0, 0, 0, 0), (63, .iconst 4, 1, 0, 0, 0, 0), (64, .if_icmp .le 10, 3, 74, 0, 0, 0), (67, .iinc 1 2, 3, 0, 0, 0, 0), (70, .iload_n 0, 1, 0, 0, 0, 0), (71, .iconst 2, 1, 0, 0, 0, 0), (72, .iushr, 1, 0, 0, 0, 0), (73, .istore_n 0, 1, 0, 0, 0, 0), (74, .iload_n 1, 1, 0, 0, 0, 0), (75, .iload_n 0, 1, 0, 0, 0, 0), (76, .iconst 1, 1, 0, 0, 0, 0), (77, .iushr, 1, 0, 0, 0, 0), (78, .iadd, 1, 0, 0, 0, 0), (79, .ireturn, 1, 0, 0, 0, 0)]
def x_t_J6_bitCount_0f7a4 : List (Nat × x_Row) := [(0, .iload_n 0, 1, 0, 0, 0, 0), (1, .iload_n 0, 1, 0, 0, 0, 0), (2, .iconst 1, 1, 0, 0, 0, 0), (3, .iushr, 1, 0, 0, 0, 0), (4, .ldc_w 265, 3, 0, 0, 1282, 1431655765), (7, .iand, 1, 0, 0, 0, 0), (8, .isub, 1, 0, 0, 0, 0), (9, .istore_n 0, 1, 0, 0, 0, 0), (10, .iload_n 0, 1, 0, 0, 0, 0), (11, .ldc_w 266, 3, 0, 0, 1283, 858993459), (14, .iand, 1, 0, 0, 0, 0), (15, .iload_n 0, 1, 0, 0, 0, 0), (16, .iconst 2, 1, 0, 0, 0, 0), (17, .iushr, 1, 0, 0, 0, 0), (18, .ldc_w 266, 3, 0, 0, 1283, 858993459), (21, .iand, 1, 0, 0, 0, 0), (22, .iadd, 1, 0, 0, 0, 0), (23, .istore_n 0, 1, 0, 0, 0, 0), (24, .iload_n 0, 1, 0, 0, 0, 0), (25, .iload_n 0, 1, 0, 0, 0, 0), (26, .iconst 4, 1, 0, 0, 0, 0), (27, .iushr, 1, 0, 0, 0, 0), (28, .iadd, 1, 0, 0, 0, 0), (29, .ldc_w 267, 3, 0, 0, 1284, 252645135), (32, .iand, 1, 0, 0, 0, 0), (33, .istore_n 0, 1, 0, 0, 0, 0), (34, .iload_n 0, 1, 0, 0, 0, 0), (35, .iload_n 0, 1, 0, 0, 0, 0), (36, .bipush 8, 2, 0, 0, 0, 0), (38, .iushr, 1, 0, 0, 0, 0), (39, .iadd, 1, 0, 0, 0, 0), (40, .istore_n 0, 1, 0, 0, 0, 0), (41, .iload_n 0, 1, 0, 0, 0, 0), (42, .iload_n 0, 1, 0, 0, 0, 0), (43, .bipush 16, 2, 0, 0, 0, 0), (45, .iushr, 1, 0, 0, 0, 0), (46, .iadd, 1, 0, 0, 0, 0), (47, .istore_n 0, 1, 0, 0, 0, 0), (48, .iload_n 0, 1, 0, 0, 0, 0), (49, .bipush 63, 2, 0, 0, 0, 0), (51, .iand, 1, 0, 0, 0, 0), (52, .ireturn, 1, 0, 0, 0, 0)]
def x_t_J13_numberOfLeadingZeros_95d88 : List (Nat × x_Row) := [(0, .lload_n 0, 1, 0, 0, 0, 0), (1, .bipush 32, 2, 0, 0, 0, 0), (3, .lushr, 1, 0, 0, 0, 0), (4, .l2i, 1, 0, 0, 0, 0), (5, .istore_n 2, 1, 0, 0, 0, 0), (6, .iload_n 2, 1, 0, 0, 0, 0), (7, .ifCond .ne 14, 3, 21, 0, 0, 0), (10, .bipush 32, 2, 0, 0, 0, 0), (12, .lload_n 0, 1, 0, 0, 0, 0), (13, .l2i, 1, 0, 0, 0, 0), (14, .invokestatic 308, 3, 311, 1, 1073, 0), (17, .iadd, 1, 0, 0, 0, 0), (18, .goto 7, 3, 25, 0, 0, 0), (21, .iload_n 2, 1, 0, 0, 0, 0), (22, .invokestatic 308, 3, 311, 1, 1073, 0), (25, .ireturn, 1, 0, 0, 0, 0)]
def x_t_J13_numberOfTrailingZeros_95d88 : List (Nat × x_Row) := [(0, .lload_n 0, 1, 0, 0, 0, 0), (1, .l2i, 1, 0, 0, 0, 0), (2, .istore_n 2, 1, 0, 0, 0, 0), (3, .iload_n 2, 1, 0, 0, 0, 0), (4, .ifCond .ne 17, 3, 21, 0, 0, 0), (7, .bipush 32, 2, 0, 0, 0, 0), (9, .lload_n 0, 1, 0, 0, 0, 0), (10, .bipush 32, 2, 0, 0, 0, 0), (12, .lushr, 1, 0, 0, 0, 0), (13, .l2i, 1, 0, 0, 0, 0), (14, .invokestatic 311, 3, 312, 1, 1188, 0), (17, .iadd, 1, 0, 0, 0, 0), (18, .goto 7, 3, 25, 0, 0, 0), (21, .iload_n 2, 1, 0, 0, 0, 0), (22, .invokestatic 311, 3, 312, 1, 1188, 0), (25, .ireturn, 1, 0, 0, 0, 0)]
def x_t_J13_bitCount_95d88 : List (Nat × x_Row) := [(0, .lload_n 0, 1, 0, 0, 0, 0), (1, .lload_n 0, 1, 0, 0, 0, 0), (2, .iconst 1, 1, 0, 0, 0, 0), (3, .lushr, 1, 0, 0, 0, 0), (4, .ldc2_w 314, 3, 0, 0, 1084, 6148914691236517205), (7, .land, 1, 0, 0, 0, 0), (8, .lsub, 1, 0, 0, 0, 0), (9, .lstore_n 0, 1, 0, 0, 0, 0), (10, .lload_n 0, 1, 0, 0, 0, 0), (11, .ldc2_w 316, 3, 0, 0, 1085, 3689348814741910323), (14, .land, 1, 0, 0, 0, 0), (15, .lload_n 0, 1, 0, 0, 0, 0), (16, .iconst 2, 1, 0, 0, 0, 0), (17, .lushr, 1, 0, 0, 0, 0), (18, .ldc2_w 316, 3, 0, 0, 1085, 3689348814741910323), (21, .land, 1, 0, 0, 0, 0), (22, .ladd, 1, 0, 0, 0, 0), (23, .lstore_n 0, 1, 0, 0, 0, 0), (24, .lload_n 0, 1, 0, 0, 0, 0), (25, .lload_n 0, 1, 0, 0, 0, 0), (26, .iconst 4, 1, 0, 0, 0, 0), (27, .lushr, 1, 0, 0, 0, 0), (28, .ladd, 1, 0, 0, 0, 0), (29, .ldc2_w 318, 3, 0, 0, 1086, 1085102592571150095), (32, .land, 1, 0, 0, 0, 0), (33, .lstore_n 0, 1, 0, 0, 0, 0), (34, .lload_n 0, 1, 0, 0, 0, 0), (35, .lload_n 0, 1, 0, 0, 0, 0), (36, .bipush 8, 2, 0, 0, 0, 0), (38, .lushr, 1, 0, 0, 0, 0), (39, .ladd, 1, 0, 0, 0, 0), (40, .lstore_n 0, 1, 0, 0, 0, 0), (41, .lload_n 0, 1, 0, 0, 0, 0), (42, .lload_n 0, 1, 0, 0, 0, 0), (43, .bipush 16, 2, 0, 0, 0, 0), (45, .lushr, 1, 0, 0, 0, 0), (46, .ladd, 1, 0, 0, 0, 0), (47, .lstore_n 0, 1, 0, 0, 0, 0), (48, .lload_n 0, 1, 0, 0, 0, 0), (49, .lload_n 0, 1, 0, 0, 0, 0), (50, .bipush 32, 2, 0, 0, 0, 0), (52, .lushr, 1, 0, 0, 0, 0), (53, .ladd, 1, 0, 0, 0, 0), (54, .lstore_n 0, 1, 0, 0, 0, 0), (55, .lload_n 0, 1, 0, 0, 0, 0), (56, .l2i, 1, 0, 0, 0, 0), (57, .bipush 127, 2, 0, 0, 0, 0), (59, .iand, 1, 0, 0, 0, 0), (60, .ireturn, 1, 0, 0, 0, 0)]
def x_t_J0_length_8abf5 : List (Nat × x_Row) := [(0, .aload_n 0, 1, 0, 0, 0, 0), (1, .getfield 9, 3, 200, 1, 2280, 0), (4, .arraylength, 1, 0, 0, 0, 0), (5, .aload_n 0, 1, 0, 0, 0, 0), (6, .invokevirtual 335, 3, 319, 1, 1765, 0), (9, .ishr, 1, 0, 0, 0, 0), (10, .ireturn, 1, 0, 0, 0, 0)]
def x_t_J0_charAt_5068e : List (Nat × x_Row) := [(0, .aload_n 0, 1, 0, 0, 0, 0), (1, .invokevirtual 492, 3, 320, 1, 1775, 0), (4, .ifCond .eq 12, 3, 16, 0, 0, 0), (7, .aload_n 0, 1, 0, 0, 0, 0), (8, .getfield 9, 3, 200, 1, 2280, 0), (11, .iload_n 1, 1, 0, 0, 0, 0), (12, .invokestatic 495, 3, 322, 2, 1779, 0), (15, .ireturn, 1, 0, 0, 0, 0), (16, .aload_n 0, 1, 0, 0, 0, 0), (17, .getfield 9, 3, 200, 1, 2280, 0), (20, .iload_n 1, 1, 0, 0, 0, 0), (21, .invokestatic 498, 3, 325, 2, 1790, 0), (24, .ireturn, 1, 0, 0, 0, 0)]
def x_t_J0_coder_7d493 : List (Nat × x_Row) := [(0, .getstatic 38, 3, 27, 0, 1769, 0), (3, .ifCond .eq 10, 3, 13, 0, 0, 0), (6, .aload_n 0, 1, 0, 0, 0, 0), (7, .getfield 15, 3, 200, 2, 2281, 0), (10, .goto 4, 3, 14, 0, 0, 0), (13, .iconst 1, 1, 0, 0, 0, 0), (14, .ireturn, 1, 0, 0, 0, 0)]
def x_t_J0_isLatin1_aae02 : List (Nat × x_Row) := [(0, .getstatic 38, 3, 27, 0, 1769, 0), (3, .ifCond .eq 14, 3, 17, 0, 0, 0), (6, .aload_n 0, 1, 0, 0, 0, 0), (7, .getfield 15, 3, 200, 2, 2281, 0), (10, .ifCond .ne 7, 3, 17, 0, 0, 0), (13, .iconst 1, 1, 0, 0, 0, 0), (14, .goto 4, 3, 18, 0, 0, 0), (17, .iconst 0, 1, 0, 0, 0, 0), (18, .ireturn, 1, 0, 0, 0, 0)]
def x_t_J0_checkIndex_df160 : List (Nat × x_Row) := [(0, .iload_n 0, 1, 0, 0, 0, 0), (1, .iload_n 1, 1, 0, 0, 0, 0), (2, .getstatic 1053, 3, 28, 0, 1785, 0), (5, .invokestatic 1059, 3, 327, 3, 1787, 0), (8, .pop, 1, 0, 0, 0, 0), (9, .return_, 1, 0, 0, 0, 0)]
def x_t_J1_charAt_3b067 : List (Nat × x_Row) := [(0, .iload_n 1, 1, 0, 0, 0, 0), (1, .aload_n 0, 1, 0, 0, 0, 0), (2, .arraylength, 1, 0, 0, 0, 0), (3, .invokestatic 9, 3, 321, 2, 1782, 0), (6, .aload_n 0, 1, 0, 0, 0, 0), (7, .iload_n 1, 1, 0, 0, 0, 0), (8, .baload, 1, 0, 0, 0, 0), (9, .sipush 255, 3, 0, 0, 0, 0), (12, .iand, 1, 0, 0, 0, 0), (13, .i2c, 1, 0, 0, 0, 0), (14, .ireturn, 1, 0, 0, 0, 0)]
def x_t_J2_getChar_3b067 : List (Nat × x_Row) := [(0, .getstatic 44, 3, 29, 0, 1803, 0), (3, .ifCond .ne 25, 3, 28, 0, 0, 0), (6, .iload_n 1, 1, 0, 0, 0, 0), (7, .ifCond .lt 11, 3, 18, 0, 0, 0), (10, .iload_n 1, 1, 0, 0, 0, 0), (11, .aload_n 0, 1, 0, 0, 0, 0), (12, .invokestatic 48, 3, 324, 1, 1796, 0), (15, .if_icmp .lt 13, 3, 28, 0, 0, 0), (21, .dup, 1, 0, 0, 0, 0), (28, .iload_n 1, 1, 0, 0, 0, 0), (29, .iconst 1, 1, 0, 0, 0, 0), (30, .ishl, 1, 0, 0, 0, 0), (31, .istore_n 1, 1, 0, 0, 0, 0), (32, .aload_n 0, 1, 0, 0, 0, 0), (33, .iload_n 1, 1, 0, 0, 0, 0), (34, .iinc 1 1, 3, 0, 0, 0, 0), (37, .baload, 1, 0, 0, 0, 0), (38, .sipush 255, 3, 0, 0, 0, 0), (41, .iand, 1, 0, 0, 0, 0), (42, .getstatic 59, 3, 30, 0, 1805, 0), (45, .ishl, 1, 0, 0, 0, 0), (46, .aload_n 0, 1, 0, 0, 0, 0), (47, .iload_n 1, 1, 0, 0, 0, 0), (48, .baload, 1, 0, 0, 0, 0), (49, .sipush 255, 3, 0, 0, 0, 0), (52, .iand, 1, 0, 0, 0, 0), (53, .getstatic 63, 3, 31, 0, 1807, 0), (56, .ishl, 1, 0, 0, 0, 0), (57, .ior, 1, 0, 0, 0, 0), (58, .i2c, 1, 0, 0, 0, 0), (59, .ireturn, 1, 0, 0, 0, 0)]
def x_t_J2_length_9d52b : List (Nat × x_Row) := [(0, .aload_n 0, 1, 0, 0, 0, 0), (1, .arraylength, 1, 0, 0, 0, 0), (2, .iconst 1, 1, 0, 0, 0, 0), (3, .ishr, 1, 0, 0, 0, 0), (4, .ireturn, 1, 0, 0, 0, 0)]
def x_t_J2_charAt_3b067 : List (Nat × x_Row) := [(0, .iload_n 1, 1, 0, 0, 0, 0), (1, .aload_n 0, 1, 0, 0, 0, 0), (2, .invokestatic 67, 3, 326, 2, 1793, 0), (5, .aload_n 0, 1, 0, 0, 0, 0), (6, .iload_n 1, 1, 0, 0, 0, 0), (7, .invokestatic 71, 3, 323, 2, 1800, 0), (10, .ireturn, 1, 0, 0, 0, 0)]
def x_t_J2_checkIndex_2214a : List (Nat × x_Row) := [(0, .iload_n 0, 1, 0, 0, 0, 0), (1, .aload_n 1, 1, 0, 0, 0, 0), (2, .invokestatic 48, 3, 324, 1, 1796, 0), (5, .invokestatic 414, 3, 321, 2, 1799, 0), (8, .return_, 1, 0, 0, 0, 0)]
def x_t_J3_checkIndex_8e157 : List (Nat × x_Row) := [(0, .iload_n 0, 1, 0, 0, 0, 0), (1, .ifCond .lt 8, 3, 9, 0, 0, 0), (4, .iload_n 0, 1, 0, 0, 0, 0), (5, .iload_n 1, 1, 0, 0, 0, 0), (6, .if_icmp .lt 10, 3, 16, 0, 0, 0), (9, .aload_n 2, 1, 0, 0, 0, 0), (10, .iload_n 0, 1, 0, 0, 0, 0), (11, .iload_n 1, 1, 0, 0, 0, 0), (16, .iload_n 0, 1, 0, 0, 0, 0), (17, .ireturn, 1, 0, 0, 0, 0)]
def x_t_L_law : List (Nat × x_Row) := [(0, .new 7, 3, 10, 0, 207, 0), (3, .dup, 1, 0, 0, 0, 0), (4, .invokespecial 9, 3, 103, 1, 209, 0), (7, .astore_n 1, 1, 0, 0, 0, 0), (8, .new 10, 3, 11, 0, 1434, 0), (11, .dup, 1, 0, 0, 0, 0), (12, .invokespecial 12, 3, 171, 1, 1436, 0), (15, .astore_n 2, 1, 0, 0, 0, 0), (16, .iconst 0, 1, 0, 0, 0, 0), (17, .istore_n 3, 1, 0, 0, 0, 0), (18, .iload_n 3, 1, 0, 0, 0, 0), (19, .aload_n 0, 1, 0, 0, 0, 0), (20, .arraylength, 1, 0, 0, 0, 0), (21, .bipush 6, 2, 0, 0, 0, 0), (23, .isub, 1, 0, 0, 0, 0), (24, .if_icmp .gt 1610, 3, 1634, 0, 0, 0), (27, .aload_n 0, 1, 0, 0, 0, 0), (28, .iload_n 3, 1, 0, 0, 0, 0), (29, .iaload, 1, 0, 0, 0, 0), (30, .bipush 63, 2, 0, 0, 0, 0), (32, .iand, 1, 0, 0, 0, 0), (33, .tableswitch 1595 0 48 #[211, 224, 238, 252, 295, 368, 402, 465, 528, 551, 574, 597, 620, 653, 686, 709, 732, 756, 780, 824, 847, 880, 933, 966, 1029, 1042, 1085, 1109, 1162, 1195, 1208, 1221, 1234, 1247, 1280, 1303, 1326, 1339, 1372, 1395, 1418, 1431, 1444, 1457, 1480, 1503, 1536, 1569, 1582], 211, 0, 0, 0, 0), (244, .aload_n 1, 1, 0, 0, 0, 0), (245, .invokevirtual 13, 3, 104, 1, 550, 0), (248, .aload_n 2, 1, 0, 0, 0, 0), (249, .invokevirtual 17, 3, 172, 1, 1669, 0), (252, .if_icmp .eq 1376, 3, 1628, 0, 0, 0), (255, .iconst 0, 1, 0, 0, 0, 0), (256, .ireturn, 1, 0, 0, 0, 0), (257, .aload_n 1, 1, 0, 0, 0, 0), (258, .invokevirtual 18, 3, 105, 1, 554, 0), (261, .aload_n 2, 1, 0, 0, 0, 0), (262, .invokevirtual 22, 3, 173, 1, 1673, 0), (265, .lcmp, 1, 0, 0, 0, 0), (266, .ifCond .eq 1362, 3, 1628, 0, 0, 0), (269, .iconst 0, 1, 0, 0, 0, 0), (270, .ireturn, 1, 0, 0, 0, 0), (271, .aload_n 1, 1, 0, 0, 0, 0), (272, .invokevirtual 23, 3, 106, 1, 558, 0), (275, .aload_n 2, 1, 0, 0, 0, 0), (276, .invokevirtual 26, 3, 174, 1, 1677, 0), (279, .lcmp, 1, 0, 0, 0, 0), (280, .ifCond .eq 1348, 3, 1628, 0, 0, 0), (283, .iconst 0, 1, 0, 0, 0, 0), (284, .ireturn, 1, 0, 0, 0, 0), (285, .aload_n 1, 1, 0, 0, 0, 0), (286, .aload_n 0, 1, 0, 0, 0, 0), (287, .iload_n 3, 1, 0, 0, 0, 0), (288, .iconst 1, 1, 0, 0, 0, 0), (289, .iadd, 1, 0, 0, 0, 0), (290, .iaload, 1, 0, 0, 0, 0), (291, .aload_n 0, 1, 0, 0, 0, 0), (292, .iload_n 3, 1, 0, 0, 0, 0), (293, .iconst 2, 1, 0, 0, 0, 0), (294, .iadd, 1, 0, 0, 0, 0), (295, .iaload, 1, 0, 0, 0, 0), (296, .aload_n 0, 1, 0, 0, 0, 0), (297, .iload_n 3, 1, 0, 0, 0, 0), (298, .iconst 3, 1, 0, 0, 0, 0), (299, .iadd, 1, 0, 0, 0, 0), (300, .iaload, 1, 0, 0, 0, 0), (301, .invokevirtual 27, 3, 107, 4, 562, 0), (304, .aload_n 2, 1, 0, 0, 0, 0), (305, .aload_n 0, 1, 0, 0, 0, 0), (306, .iload_n 3, 1, 0, 0, 0, 0), (307, .iconst 1, 1, 0, 0, 0, 0), (308, .iadd, 1, 0, 0, 0, 0), (309, .iaload, 1, 0, 0, 0, 0), (310, .aload_n 0, 1, 0, 0, 0, 0), (311, .iload_n 3, 1, 0, 0, 0, 0), (312, .iconst 2, 1, 0, 0, 0, 0), (313, .iadd, 1, 0, 0, 0, 0), (314, .iaload, 1, 0, 0, 0, 0), (315, .aload_n 0, 1, 0, 0, 0, 0), (316, .iload_n 3, 1, 0, 0, 0, 0), (317, .iconst 3, 1, 0, 0, 0, 0), (318, .iadd, 1, 0, 0, 0, 0), (319, .iaload, 1, 0, 0, 0, 0), (320, .invokevirtual 31, 3, 183, 4, 1681, 0), (323, .if_icmp .eq 1305, 3, 1628, 0, 0, 0), (326, .iconst 0, 1, 0, 0, 0, 0), (327, .ireturn, 1, 0, 0, 0, 0), (328, .aload_n 1, 1, 0, 0, 0, 0), (329, .aload_n 0, 1, 0, 0, 0, 0), (330, .iload_n 3, 1, 0, 0, 0, 0), (331, .iconst 1, 1, 0, 0, 0, 0), (332, .iadd, 1, 0, 0, 0, 0), (333, .iaload, 1, 0, 0, 0, 0), (334, .aload_n 0, 1, 0, 0, 0, 0), (335, .iload_n 3, 1, 0, 0, 0, 0), (336, .iconst 2, 1, 0, 0, 0, 0), (337, .iadd, 1, 0, 0, 0, 0), (338, .iaload, 1, 0, 0, 0, 0), (339, .aload_n 0, 1, 0, 0, 0, 0), (340, .iload_n 3, 1, 0, 0, 0, 0), (341, .iconst 3, 1, 0, 0, 0, 0), (342, .iadd, 1, 0, 0, 0, 0), (343, .iaload, 1, 0, 0, 0, 0), (344, .i2l, 1, 0, 0, 0, 0), (345, .bipush 32, 2, 0, 0, 0, 0), (347, .lshl, 1, 0, 0, 0, 0), (348, .aload_n 0, 1, 0, 0, 0, 0), (349, .iload_n 3, 1, 0, 0, 0, 0), (350, .iconst 4, 1, 0, 0, 0, 0), (351, .iadd, 1, 0, 0, 0, 0), (352, .iaload, 1, 0, 0, 0, 0), (353, .i2l, 1, 0, 0, 0, 0), (354, .ldc2_w 32, 3, 0, 0, 2278, 4294967295), (357, .land, 1, 0, 0, 0, 0), (358, .lor, 1, 0, 0, 0, 0), (359, .invokevirtual 34, 3, 108, 4, 582, 0), (362, .aload_n 2, 1, 0, 0, 0, 0), (363, .aload_n 0, 1, 0, 0, 0, 0), (364, .iload_n 3, 1, 0, 0, 0, 0), (365, .iconst 1, 1, 0, 0, 0, 0), (366, .iadd, 1, 0, 0, 0, 0), (367, .iaload, 1, 0, 0, 0, 0), (368, .aload_n 0, 1, 0, 0, 0, 0), (369, .iload_n 3, 1, 0, 0, 0, 0), (370, .iconst 2, 1, 0, 0, 0, 0), (371, .iadd, 1, 0, 0, 0, 0), (372, .iaload, 1, 0, 0, 0, 0), (373, .aload_n 0, 1, 0, 0, 0, 0), (374, .iload_n 3, 1, 0, 0, 0, 0), (375, .iconst 3, 1, 0, 0, 0, 0), (376, .iadd, 1, 0, 0, 0, 0), (377, .iaload, 1, 0, 0, 0, 0), (378, .i2l, 1, 0, 0, 0, 0), (379, .bipush 32, 2, 0, 0, 0, 0), (381, .lshl, 1, 0, 0, 0, 0), (382, .aload_n 0, 1, 0, 0, 0, 0), (383, .iload_n 3, 1, 0, 0, 0, 0), (384, .iconst 4, 1, 0, 0, 0, 0), (385, .iadd, 1, 0, 0, 0, 0), (386, .iaload, 1, 0, 0, 0, 0), (387, .i2l, 1, 0, 0, 0, 0), (388, .ldc2_w 32, 3, 0, 0, 2278, 4294967295), (391, .land, 1, 0, 0, 0, 0), (392, .lor, 1, 0, 0, 0, 0), (393, .invokevirtual 38, 3, 185, 4, 1692, 0), (396, .if_icmp .eq 1232, 3, 1628, 0, 0, 0), (399, .iconst 0, 1, 0, 0, 0, 0), (400, .ireturn, 1, 0, 0, 0, 0), (401, .aload_n 1, 1, 0, 0, 0, 0), (402, .aload_n 0, 1, 0, 0, 0, 0), (403, .iload_n 3, 1, 0, 0, 0, 0), (404, .iconst 1, 1, 0, 0, 0, 0), (405, .iadd, 1, 0, 0, 0, 0), (406, .iaload, 1, 0, 0, 0, 0), (407, .aload_n 0, 1, 0, 0, 0, 0), (408, .iload_n 3, 1, 0, 0, 0, 0), (409, .iconst 2, 1, 0, 0, 0, 0), (410, .iadd, 1, 0, 0, 0, 0), (411, .iaload, 1, 0, 0, 0, 0), (412, .invokevirtual 39, 3, 109, 3, 602, 0), (415, .aload_n 2, 1, 0, 0, 0, 0), (416, .aload_n 0, 1, 0, 0, 0, 0), (417, .iload_n 3, 1, 0, 0, 0, 0), (418, .iconst 1, 1, 0, 0, 0, 0), (419, .iadd, 1, 0, 0, 0, 0), (420, .iaload, 1, 0, 0, 0, 0), (421, .aload_n 0, 1, 0, 0, 0, 0), (422, .iload_n 3, 1, 0, 0, 0, 0), (423, .iconst 2, 1, 0, 0, 0, 0), (424, .iadd, 1, 0, 0, 0, 0), (425, .iaload, 1, 0, 0, 0, 0), (426, .invokevirtual 43, 3, 186, 3, 1703, 0), (429, .lcmp, 1, 0, 0, 0, 0), (430, .ifCond .eq 1198, 3, 1628, 0, 0, 0), (433, .iconst 0, 1, 0, 0, 0, 0), (434, .ireturn, 1, 0, 0, 0, 0), (435, .aload_n 1, 1, 0, 0, 0, 0), (436, .aload_n 0, 1, 0, 0, 0, 0), (437, .iload_n 3, 1, 0, 0, 0, 0), (438, .iconst 1, 1, 0, 0, 0, 0), (439, .iadd, 1, 0, 0, 0, 0), (440, .iaload, 1, 0, 0, 0, 0), (441, .aload_n 0, 1, 0, 0, 0, 0), (442, .iload_n 3, 1, 0, 0, 0, 0), (443, .iconst 2, 1, 0, 0, 0, 0), (444, .iadd, 1, 0, 0, 0, 0), (445, .iaload, 1, 0, 0, 0, 0), (446, .aload_n 0, 1, 0, 0, 0, 0), (447, .iload_n 3, 1, 0, 0, 0, 0), (448, .iconst 3, 1, 0, 0, 0, 0), (449, .iadd, 1, 0, 0, 0, 0), (450, .iaload, 1, 0, 0, 0, 0), (451, .aload_n 0, 1, 0, 0, 0, 0), (452, .iload_n 3, 1, 0, 0, 0, 0), (453, .iconst 4, 1, 0, 0, 0, 0), (454, .iadd, 1, 0, 0, 0, 0), (455, .iaload, 1, 0, 0, 0, 0), (456, .aload_n 0, 1, 0, 0, 0, 0), (457, .iload_n 3, 1, 0, 0, 0, 0), (458, .iconst 5, 1, 0, 0, 0, 0), (459, .iadd, 1, 0, 0, 0, 0), (460, .iaload, 1, 0, 0, 0, 0), (461, .invokevirtual 44, 3, 110, 6, 614, 0), (464, .aload_n 2, 1, 0, 0, 0, 0), (465, .aload_n 0, 1, 0, 0, 0, 0), (466, .iload_n 3, 1, 0, 0, 0, 0), (467, .iconst 1, 1, 0, 0, 0, 0), (468, .iadd, 1, 0, 0, 0, 0), (469, .iaload, 1, 0, 0, 0, 0), (470, .aload_n 0, 1, 0, 0, 0, 0), (471, .iload_n 3, 1, 0, 0, 0, 0), (472, .iconst 2, 1, 0, 0, 0, 0), (473, .iadd, 1, 0, 0, 0, 0), (474, .iaload, 1, 0, 0, 0, 0), (475, .aload_n 0, 1, 0, 0, 0, 0), (476, .iload_n 3, 1, 0, 0, 0, 0), (477, .iconst 3, 1, 0, 0, 0, 0), (478, .iadd, 1, 0, 0, 0, 0), (479, .iaload, 1, 0, 0, 0, 0), (480, .aload_n 0, 1, 0, 0, 0, 0), (481, .iload_n 3, 1, 0, 0, 0, 0), (482, .iconst 4, 1, 0, 0, 0, 0), (483, .iadd, 1, 0, 0, 0, 0), (484, .iaload, 1, 0, 0, 0, 0), (485, .aload_n 0, 1, 0, 0, 0, 0), (486, .iload_n 3, 1, 0, 0, 0, 0), (487, .iconst 5, 1, 0, 0, 0, 0), (488, .iadd, 1, 0, 0, 0, 0), (489, .iaload, 1, 0, 0, 0, 0), (490, .invokevirtual 48, 3, 187, 6, 1708, 0), (493, .if_icmp .eq 1135, 3, 1628, 0, 0, 0), (496, .iconst 0, 1, 0, 0, 0, 0), (497, .ireturn, 1, 0, 0, 0, 0), (498, .aload_n 1, 1, 0, 0, 0, 0), (499, .aload_n 0, 1, 0, 0, 0, 0), (500, .iload_n 3, 1, 0, 0, 0, 0), (501, .iconst 1, 1, 0, 0, 0, 0), (502, .iadd, 1, 0, 0, 0, 0), (503, .iaload, 1, 0, 0, 0, 0), (504, .aload_n 0, 1, 0, 0, 0, 0), (505, .iload_n 3, 1, 0, 0, 0, 0), (506, .iconst 2, 1, 0, 0, 0, 0), (507, .iadd, 1, 0, 0, 0, 0), (508, .iaload, 1, 0, 0, 0, 0), (509, .aload_n 0, 1, 0, 0, 0, 0), (510, .iload_n 3, 1, 0, 0, 0, 0), (511, .iconst 3, 1, 0, 0, 0, 0), (512, .iadd, 1, 0, 0, 0, 0), (513, .iaload, 1, 0, 0, 0, 0), (514, .aload_n 0, 1, 0, 0, 0, 0), (515, .iload_n 3, 1, 0, 0, 0, 0), (516, .iconst 4, 1, 0, 0, 0, 0), (517, .iadd, 1, 0, 0, 0, 0), (518, .iaload, 1, 0, 0, 0, 0), (519, .aload_n 0, 1, 0, 0, 0, 0), (520, .iload_n 3, 1, 0, 0, 0, 0), (521, .iconst 5, 1, 0, 0, 0, 0), (522, .iadd, 1, 0, 0, 0, 0), (523, .iaload, 1, 0, 0, 0, 0), (524, .invokevirtual 49, 3, 113, 6, 621, 0), (527, .aload_n 2, 1, 0, 0, 0, 0), (528, .aload_n 0, 1, 0, 0, 0, 0), (529, .iload_n 3, 1, 0, 0, 0, 0), (530, .iconst 1, 1, 0, 0, 0, 0), (531, .iadd, 1, 0, 0, 0, 0), (532, .iaload, 1, 0, 0, 0, 0), (533, .aload_n 0, 1, 0, 0, 0, 0), (534, .iload_n 3, 1, 0, 0, 0, 0), (535, .iconst 2, 1, 0, 0, 0, 0), (536, .iadd, 1, 0, 0, 0, 0), (537, .iaload, 1, 0, 0, 0, 0), (538, .aload_n 0, 1, 0, 0, 0, 0), (539, .iload_n 3, 1, 0, 0, 0, 0), (540, .iconst 3, 1, 0, 0, 0, 0), (541, .iadd, 1, 0, 0, 0, 0), (542, .iaload, 1, 0, 0, 0, 0), (543, .aload_n 0, 1, 0, 0, 0, 0), (544, .iload_n 3, 1, 0, 0, 0, 0), (545, .iconst 4, 1, 0, 0, 0, 0), (546, .iadd, 1, 0, 0, 0, 0), (547, .iaload, 1, 0, 0, 0, 0), (548, .aload_n 0, 1, 0, 0, 0, 0), (549, .iload_n 3, 1, 0, 0, 0, 0), (550, .iconst 5, 1, 0, 0, 0, 0), (551, .iadd, 1, 0, 0, 0, 0), (552, .iaload, 1, 0, 0, 0, 0), (553, .invokevirtual 53, 3, 189, 6, 1712, 0), (556, .if_icmp .eq 1072, 3, 1628, 0, 0, 0), (559, .iconst 0, 1, 0, 0, 0, 0), (560, .ireturn, 1, 0, 0, 0, 0), (561, .aload_n 1, 1, 0, 0, 0, 0), (562, .aload_n 0, 1, 0, 0, 0, 0), (563, .iload_n 3, 1, 0, 0, 0, 0), (564, .iconst 1, 1, 0, 0, 0, 0), (565, .iadd, 1, 0, 0, 0, 0), (566, .iaload, 1, 0, 0, 0, 0), (567, .invokevirtual 54, 3, 115, 2, 629, 0), (570, .aload_n 2, 1, 0, 0, 0, 0), (571, .aload_n 0, 1, 0, 0, 0, 0), (572, .iload_n 3, 1, 0, 0, 0, 0), (573, .iconst 1, 1, 0, 0, 0, 0), (574, .iadd, 1, 0, 0, 0, 0), (575, .iaload, 1, 0, 0, 0, 0), (576, .invokevirtual 58, 3, 215, 2, 1724, 0), (579, .if_icmp .eq 1049, 3, 1628, 0, 0, 0), (582, .iconst 0, 1, 0, 0, 0, 0), (583, .ireturn, 1, 0, 0, 0, 0), (584, .aload_n 1, 1, 0, 0, 0, 0), (585, .aload_n 0, 1, 0, 0, 0, 0), (586, .iload_n 3, 1, 0, 0, 0, 0), (587, .iconst 1, 1, 0, 0, 0, 0), (588, .iadd, 1, 0, 0, 0, 0), (589, .iaload, 1, 0, 0, 0, 0), (590, .invokevirtual 59, 3, 116, 2, 855, 0), (593, .aload_n 2, 1, 0, 0, 0, 0), (594, .aload_n 0, 1, 0, 0, 0, 0), (595, .iload_n 3, 1, 0, 0, 0, 0), (596, .iconst 1, 1, 0, 0, 0, 0), (597, .iadd, 1, 0, 0, 0, 0), (598, .iaload, 1, 0, 0, 0, 0), (599, .invokevirtual 62, 3, 226, 2, 1877, 0), (602, .if_icmp .eq 1026, 3, 1628, 0, 0, 0), (605, .iconst 0, 1, 0, 0, 0, 0), (606, .ireturn, 1, 0, 0, 0, 0), (607, .aload_n 1, 1, 0, 0, 0, 0), (608, .aload_n 0, 1, 0, 0, 0, 0), (609, .iload_n 3, 1, 0, 0, 0, 0), (610, .iconst 1, 1, 0, 0, 0, 0), (611, .iadd, 1, 0, 0, 0, 0), (612, .iaload, 1, 0, 0, 0, 0), (613, .invokevirtual 63, 3, 118, 2, 989, 0), (616, .aload_n 2, 1, 0, 0, 0, 0), (617, .aload_n 0, 1, 0, 0, 0, 0), (618, .iload_n 3, 1, 0, 0, 0, 0), (619, .iconst 1, 1, 0, 0, 0, 0), (620, .iadd, 1, 0, 0, 0, 0), (621, .iaload, 1, 0, 0, 0, 0), (622, .invokevirtual 66, 3, 205, 2, 1720, 0), (625, .if_icmp .eq 1003, 3, 1628, 0, 0, 0), (628, .iconst 0, 1, 0, 0, 0, 0), (629, .ireturn, 1, 0, 0, 0, 0), (630, .aload_n 1, 1, 0, 0, 0, 0), (631, .aload_n 0, 1, 0, 0, 0, 0), (632, .iload_n 3, 1, 0, 0, 0, 0), (633, .iconst 1, 1, 0, 0, 0, 0), (634, .iadd, 1, 0, 0, 0, 0), (635, .iaload, 1, 0, 0, 0, 0), (636, .invokevirtual 67, 3, 119, 2, 993, 0), (639, .aload_n 2, 1, 0, 0, 0, 0), (640, .aload_n 0, 1, 0, 0, 0, 0), (641, .iload_n 3, 1, 0, 0, 0, 0), (642, .iconst 1, 1, 0, 0, 0, 0), (643, .iadd, 1, 0, 0, 0, 0), (644, .iaload, 1, 0, 0, 0, 0), (645, .invokevirtual 70, 3, 230, 2, 1921, 0), (648, .if_icmp .eq 980, 3, 1628, 0, 0, 0), (651, .iconst 0, 1, 0, 0, 0, 0), (652, .ireturn, 1, 0, 0, 0, 0), (653, .aload_n 1, 1, 0, 0, 0, 0), (654, .aload_n 0, 1, 0, 0, 0, 0), (655, .iload_n 3, 1, 0, 0, 0, 0), (656, .iconst 1, 1, 0, 0, 0, 0), (657, .iadd, 1, 0, 0, 0, 0), (658, .iaload, 1, 0, 0, 0, 0), (659, .aload_n 0, 1, 0, 0, 0, 0), (660, .iload_n 3, 1, 0, 0, 0, 0), (661, .iconst 2, 1, 0, 0, 0, 0), (662, .iadd, 1, 0, 0, 0, 0), (663, .iaload, 1, 0, 0, 0, 0), (664, .invokevirtual 71, 3, 120, 3, 997, 0), (667, .aload_n 2, 1, 0, 0, 0, 0), (668, .aload_n 0, 1, 0, 0, 0, 0), (669, .iload_n 3, 1, 0, 0, 0, 0), (670, .iconst 1, 1, 0, 0, 0, 0), (671, .iadd, 1, 0, 0, 0, 0), (672, .iaload, 1, 0, 0, 0, 0), (673, .aload_n 0, 1, 0, 0, 0, 0), (674, .iload_n 3, 1, 0, 0, 0, 0), (675, .iconst 2, 1, 0, 0, 0, 0), (676, .iadd, 1, 0, 0, 0, 0), (677, .iaload, 1, 0, 0, 0, 0), (678, .invokevirtual 75, 3, 231, 3, 1925, 0), (681, .if_icmp .eq 947, 3, 1628, 0, 0, 0), (684, .iconst 0, 1, 0, 0, 0, 0), (685, .ireturn, 1, 0, 0, 0, 0), (686, .aload_n 1, 1, 0, 0, 0, 0), (687, .aload_n 0, 1, 0, 0, 0, 0), (688, .iload_n 3, 1, 0, 0, 0, 0), (689, .iconst 1, 1, 0, 0, 0, 0), (690, .iadd, 1, 0, 0, 0, 0), (691, .iaload, 1, 0, 0, 0, 0), (692, .aload_n 0, 1, 0, 0, 0, 0), (693, .iload_n 3, 1, 0, 0, 0, 0), (694, .iconst 2, 1, 0, 0, 0, 0), (695, .iadd, 1, 0, 0, 0, 0), (696, .iaload, 1, 0, 0, 0, 0), (697, .invokevirtual 76, 3, 121, 3, 1005, 0), (700, .aload_n 2, 1, 0, 0, 0, 0), (701, .aload_n 0, 1, 0, 0, 0, 0), (702, .iload_n 3, 1, 0, 0, 0, 0), (703, .iconst 1, 1, 0, 0, 0, 0), (704, .iadd, 1, 0, 0, 0, 0), (705, .iaload, 1, 0, 0, 0, 0), (706, .aload_n 0, 1, 0, 0, 0, 0), (707, .iload_n 3, 1, 0, 0, 0, 0), (708, .iconst 2, 1, 0, 0, 0, 0), (709, .iadd, 1, 0, 0, 0, 0), (710, .iaload, 1, 0, 0, 0, 0), (711, .invokevirtual 79, 3, 232, 3, 1933, 0), (714, .if_icmp .eq 914, 3, 1628, 0, 0, 0), (717, .iconst 0, 1, 0, 0, 0, 0), (718, .ireturn, 1, 0, 0, 0, 0), (719, .aload_n 1, 1, 0, 0, 0, 0), (720, .aload_n 0, 1, 0, 0, 0, 0), (721, .iload_n 3, 1, 0, 0, 0, 0), (722, .iconst 1, 1, 0, 0, 0, 0), (723, .iadd, 1, 0, 0, 0, 0), (724, .iaload, 1, 0, 0, 0, 0), (725, .invokevirtual 80, 3, 122, 2, 1013, 0), (728, .aload_n 2, 1, 0, 0, 0, 0), (729, .aload_n 0, 1, 0, 0, 0, 0), (730, .iload_n 3, 1, 0, 0, 0, 0), (731, .iconst 1, 1, 0, 0, 0, 0), (732, .iadd, 1, 0, 0, 0, 0), (733, .iaload, 1, 0, 0, 0, 0), (734, .invokevirtual 83, 3, 260, 2, 2062, 0), (737, .if_icmp .eq 891, 3, 1628, 0, 0, 0), (740, .iconst 0, 1, 0, 0, 0, 0), (741, .ireturn, 1, 0, 0, 0, 0), (742, .aload_n 1, 1, 0, 0, 0, 0), (743, .aload_n 0, 1, 0, 0, 0, 0), (744, .iload_n 3, 1, 0, 0, 0, 0), (745, .iconst 1, 1, 0, 0, 0, 0), (746, .iadd, 1, 0, 0, 0, 0), (747, .iaload, 1, 0, 0, 0, 0), (748, .invokevirtual 84, 3, 123, 2, 1030, 0), (751, .aload_n 2, 1, 0, 0, 0, 0), (752, .aload_n 0, 1, 0, 0, 0, 0), (753, .iload_n 3, 1, 0, 0, 0, 0), (754, .iconst 1, 1, 0, 0, 0, 0), (755, .iadd, 1, 0, 0, 0, 0), (756, .iaload, 1, 0, 0, 0, 0), (757, .invokevirtual 87, 3, 261, 2, 2074, 0), (760, .if_icmp .eq 868, 3, 1628, 0, 0, 0), (763, .iconst 0, 1, 0, 0, 0, 0), (764, .ireturn, 1, 0, 0, 0, 0), (765, .aload_n 1, 1, 0, 0, 0, 0), (766, .aload_n 0, 1, 0, 0, 0, 0), (767, .iload_n 3, 1, 0, 0, 0, 0), (768, .iconst 1, 1, 0, 0, 0, 0), (769, .iadd, 1, 0, 0, 0, 0), (770, .iaload, 1, 0, 0, 0, 0), (771, .invokevirtual 88, 3, 127, 2, 1038, 0), (774, .aload_n 2, 1, 0, 0, 0, 0), (775, .aload_n 0, 1, 0, 0, 0, 0), (776, .iload_n 3, 1, 0, 0, 0, 0), (777, .iconst 1, 1, 0, 0, 0, 0), (778, .iadd, 1, 0, 0, 0, 0), (779, .iaload, 1, 0, 0, 0, 0), (780, .invokevirtual 92, 3, 238, 2, 1941, 0), (783, .lcmp, 1, 0, 0, 0, 0), (784, .ifCond .eq 844, 3, 1628, 0, 0, 0), (787, .iconst 0, 1, 0, 0, 0, 0), (788, .ireturn, 1, 0, 0, 0, 0), (789, .aload_n 1, 1, 0, 0, 0, 0), (790, .aload_n 0, 1, 0, 0, 0, 0), (791, .iload_n 3, 1, 0, 0, 0, 0), (792, .iconst 1, 1, 0, 0, 0, 0), (793, .iadd, 1, 0, 0, 0, 0), (794, .iaload, 1, 0, 0, 0, 0), (795, .invokevirtual 93, 3, 128, 2, 1046, 0), (798, .aload_n 2, 1, 0, 0, 0, 0), (799, .aload_n 0, 1, 0, 0, 0, 0), (800, .iload_n 3, 1, 0, 0, 0, 0), (801, .iconst 1, 1, 0, 0, 0, 0), (802, .iadd, 1, 0, 0, 0, 0), (803, .iaload, 1, 0, 0, 0, 0), (804, .invokevirtual 96, 3, 239, 2, 1961, 0), (807, .lcmp, 1, 0, 0, 0, 0), (808, .ifCond .eq 820, 3, 1628, 0, 0, 0), (811, .iconst 0, 1, 0, 0, 0, 0), (812, .ireturn, 1, 0, 0, 0, 0), (813, .aload_n 1, 1, 0, 0, 0, 0), (814, .aload_n 0, 1, 0, 0, 0, 0), (815, .iload_n 3, 1, 0, 0, 0, 0), (816, .iconst 1, 1, 0, 0, 0, 0), (817, .iadd, 1, 0, 0, 0, 0), (818, .iaload, 1, 0, 0, 0, 0), (819, .aload_n 0, 1, 0, 0, 0, 0), (820, .iload_n 3, 1, 0, 0, 0, 0), (821, .iconst 2, 1, 0, 0, 0, 0), (822, .iadd, 1, 0, 0, 0, 0), (823, .iaload, 1, 0, 0, 0, 0), (824, .aload_n 0, 1, 0, 0, 0, 0), (825, .iload_n 3, 1, 0, 0, 0, 0), (826, .iconst 3, 1, 0, 0, 0, 0), (827, .iadd, 1, 0, 0, 0, 0), (828, .iaload, 1, 0, 0, 0, 0), (829, .invokevirtual 97, 3, 129, 4, 1057, 0), (832, .aload_n 2, 1, 0, 0, 0, 0), (833, .aload_n 0, 1, 0, 0, 0, 0), (834, .iload_n 3, 1, 0, 0, 0, 0), (835, .iconst 1, 1, 0, 0, 0, 0), (836, .iadd, 1, 0, 0, 0, 0), (837, .iaload, 1, 0, 0, 0, 0), (838, .aload_n 0, 1, 0, 0, 0, 0), (839, .iload_n 3, 1, 0, 0, 0, 0), (840, .iconst 2, 1, 0, 0, 0, 0), (841, .iadd, 1, 0, 0, 0, 0), (842, .iaload, 1, 0, 0, 0, 0), (843, .aload_n 0, 1, 0, 0, 0, 0), (844, .iload_n 3, 1, 0, 0, 0, 0), (845, .iconst 3, 1, 0, 0, 0, 0), (846, .iadd, 1, 0, 0, 0, 0), (847, .iaload, 1, 0, 0, 0, 0), (848, .invokevirtual 101, 3, 240, 4, 1972, 0), (851, .lcmp, 1, 0, 0, 0, 0), (852, .ifCond .eq 776, 3, 1628, 0, 0, 0), (855, .iconst 0, 1, 0, 0, 0, 0), (856, .ireturn, 1, 0, 0, 0, 0), (857, .aload_n 1, 1, 0, 0, 0, 0), (858, .aload_n 0, 1, 0, 0, 0, 0), (859, .iload_n 3, 1, 0, 0, 0, 0), (860, .iconst 1, 1, 0, 0, 0, 0), (861, .iadd, 1, 0, 0, 0, 0), (862, .iaload, 1, 0, 0, 0, 0), (863, .invokevirtual 102, 3, 130, 2, 1066, 0), (866, .aload_n 2, 1, 0, 0, 0, 0), (867, .aload_n 0, 1, 0, 0, 0, 0), (868, .iload_n 3, 1, 0, 0, 0, 0), (869, .iconst 1, 1, 0, 0, 0, 0), (870, .iadd, 1, 0, 0, 0, 0), (871, .iaload, 1, 0, 0, 0, 0), (872, .invokevirtual 105, 3, 241, 2, 1980, 0), (875, .if_icmp .eq 753, 3, 1628, 0, 0, 0), (878, .iconst 0, 1, 0, 0, 0, 0), (879, .ireturn, 1, 0, 0, 0, 0), (880, .aload_n 1, 1, 0, 0, 0, 0), (881, .aload_n 0, 1, 0, 0, 0, 0), (882, .iload_n 3, 1, 0, 0, 0, 0), (883, .iconst 1, 1, 0, 0, 0, 0), (884, .iadd, 1, 0, 0, 0, 0), (885, .iaload, 1, 0, 0, 0, 0), (886, .aload_n 0, 1, 0, 0, 0, 0), (887, .iload_n 3, 1, 0, 0, 0, 0), (888, .iconst 2, 1, 0, 0, 0, 0), (889, .iadd, 1, 0, 0, 0, 0), (890, .iaload, 1, 0, 0, 0, 0), (891, .invokevirtual 106, 3, 131, 3, 1077, 0), (894, .aload_n 2, 1, 0, 0, 0, 0), (895, .aload_n 0, 1, 0, 0, 0, 0), (896, .iload_n 3, 1, 0, 0, 0, 0), (897, .iconst 1, 1, 0, 0, 0, 0), (898, .iadd, 1, 0, 0, 0, 0), (899, .iaload, 1, 0, 0, 0, 0), (900, .aload_n 0, 1, 0, 0, 0, 0), (901, .iload_n 3, 1, 0, 0, 0, 0), (902, .iconst 2, 1, 0, 0, 0, 0), (903, .iadd, 1, 0, 0, 0, 0), (904, .iaload, 1, 0, 0, 0, 0), (905, .invokevirtual 109, 3, 242, 3, 1984, 0), (908, .if_icmp .eq 720, 3, 1628, 0, 0, 0), (911, .iconst 0, 1, 0, 0, 0, 0), (912, .ireturn, 1, 0, 0, 0, 0), (913, .aload_n 1, 1, 0, 0, 0, 0), (914, .aload_n 0, 1, 0, 0, 0, 0), (915, .iload_n 3, 1, 0, 0, 0, 0), (916, .iconst 1, 1, 0, 0, 0, 0), (917, .iadd, 1, 0, 0, 0, 0), (918, .iaload, 1, 0, 0, 0, 0), (919, .i2l, 1, 0, 0, 0, 0), (920, .bipush 32, 2, 0, 0, 0, 0), (922, .lshl, 1, 0, 0, 0, 0), (923, .aload_n 0, 1, 0, 0, 0, 0), (924, .iload_n 3, 1, 0, 0, 0, 0), (925, .iconst 2, 1, 0, 0, 0, 0), (926, .iadd, 1, 0, 0, 0, 0), (927, .iaload, 1, 0, 0, 0, 0), (928, .i2l, 1, 0, 0, 0, 0), (929, .ldc2_w 32, 3, 0, 0, 2278, 4294967295), (932, .land, 1, 0, 0, 0, 0), (933, .lor, 1, 0, 0, 0, 0), (934, .invokevirtual 110, 3, 132, 2, 1087, 0), (937, .aload_n 2, 1, 0, 0, 0, 0), (938, .aload_n 0, 1, 0, 0, 0, 0), (939, .iload_n 3, 1, 0, 0, 0, 0), (940, .iconst 1, 1, 0, 0, 0, 0), (941, .iadd, 1, 0, 0, 0, 0), (942, .iaload, 1, 0, 0, 0, 0), (943, .i2l, 1, 0, 0, 0, 0), (944, .bipush 32, 2, 0, 0, 0, 0), (946, .lshl, 1, 0, 0, 0, 0), (947, .aload_n 0, 1, 0, 0, 0, 0), (948, .iload_n 3, 1, 0, 0, 0, 0), (949, .iconst 2, 1, 0, 0, 0, 0), (950, .iadd, 1, 0, 0, 0, 0), (951, .iaload, 1, 0, 0, 0, 0), (952, .i2l, 1, 0, 0, 0, 0), (953, .ldc2_w 32, 3, 0, 0, 2278, 4294967295), (956, .land, 1, 0, 0, 0, 0), (957, .lor, 1, 0, 0, 0, 0), (958, .invokevirtual 114, 3, 245, 2, 1991, 0), (961, .if_icmp .eq 667, 3, 1628, 0, 0, 0), (964, .iconst 0, 1, 0, 0, 0, 0), (965, .ireturn, 1, 0, 0, 0, 0), (966, .aload_n 1, 1, 0, 0, 0, 0), (967, .aload_n 0, 1, 0, 0, 0, 0), (968, .iload_n 3, 1, 0, 0, 0, 0), (969, .iconst 1, 1, 0, 0, 0, 0), (970, .iadd, 1, 0, 0, 0, 0), (971, .iaload, 1, 0, 0, 0, 0), (972, .aload_n 0, 1, 0, 0, 0, 0), (973, .iload_n 3, 1, 0, 0, 0, 0), (974, .iconst 2, 1, 0, 0, 0, 0), (975, .iadd, 1, 0, 0, 0, 0), (976, .iaload, 1, 0, 0, 0, 0), (977, .invokevirtual 115, 3, 134, 3, 1099, 0), (980, .aload_n 2, 1, 0, 0, 0, 0), (981, .aload_n 0, 1, 0, 0, 0, 0), (982, .iload_n 3, 1, 0, 0, 0, 0), (983, .iconst 1, 1, 0, 0, 0, 0), (984, .iadd, 1, 0, 0, 0, 0), (985, .iaload, 1, 0, 0, 0, 0), (986, .aload_n 0, 1, 0, 0, 0, 0), (987, .iload_n 3, 1, 0, 0, 0, 0), (988, .iconst 2, 1, 0, 0, 0, 0), (989, .iadd, 1, 0, 0, 0, 0), (990, .iaload, 1, 0, 0, 0, 0), (991, .invokevirtual 118, 3, 246, 3, 2003, 0), (994, .if_icmp .eq 634, 3, 1628, 0, 0, 0), (997, .iconst 0, 1, 0, 0, 0, 0), (998, .ireturn, 1, 0, 0, 0, 0), (999, .aload_n 1, 1, 0, 0, 0, 0), (1000, .aload_n 0, 1, 0, 0, 0, 0), (1001, .iload_n 3, 1, 0, 0, 0, 0), (1002, .iconst 1, 1, 0, 0, 0, 0), (1003, .iadd, 1, 0, 0, 0, 0), (1004, .iaload, 1, 0, 0, 0, 0), (1005, .i2l, 1, 0, 0, 0, 0), (1006, .bipush 32, 2, 0, 0, 0, 0), (1008, .lshl, 1, 0, 0, 0, 0), (1009, .aload_n 0, 1, 0, 0, 0, 0), (1010, .iload_n 3, 1, 0, 0, 0, 0), (1011, .iconst 2, 1, 0, 0, 0, 0), (1012, .iadd, 1, 0, 0, 0, 0), (1013, .iaload, 1, 0, 0, 0, 0), (1014, .i2l, 1, 0, 0, 0, 0), (1015, .ldc2_w 32, 3, 0, 0, 2278, 4294967295), (1018, .land, 1, 0, 0, 0, 0), (1019, .lor, 1, 0, 0, 0, 0), (1020, .aload_n 0, 1, 0, 0, 0, 0), (1021, .iload_n 3, 1, 0, 0, 0, 0), (1022, .iconst 3, 1, 0, 0, 0, 0), (1023, .iadd, 1, 0, 0, 0, 0), (1024, .iaload, 1, 0, 0, 0, 0), (1025, .invokevirtual 119, 3, 135, 3, 1103, 0), (1028, .aload_n 2, 1, 0, 0, 0, 0), (1029, .aload_n 0, 1, 0, 0, 0, 0), (1030, .iload_n 3, 1, 0, 0, 0, 0), (1031, .iconst 1, 1, 0, 0, 0, 0), (1032, .iadd, 1, 0, 0, 0, 0), (1033, .iaload, 1, 0, 0, 0, 0), (1034, .i2l, 1, 0, 0, 0, 0), (1035, .bipush 32, 2, 0, 0, 0, 0), (1037, .lshl, 1, 0, 0, 0, 0), (1038, .aload_n 0, 1, 0, 0, 0, 0), (1039, .iload_n 3, 1, 0, 0, 0, 0), (1040, .iconst 2, 1, 0, 0, 0, 0), (1041, .iadd, 1, 0, 0, 0, 0), (1042, .iaload, 1, 0, 0, 0, 0), (1043, .i2l, 1, 0, 0, 0, 0), (1044, .ldc2_w 32, 3, 0, 0, 2278, 4294967295), (1047, .land, 1, 0, 0, 0, 0), (1048, .lor, 1, 0, 0, 0, 0), (1049, .aload_n 0, 1, 0, 0, 0, 0), (1050, .iload_n 3, 1, 0, 0, 0, 0), (1051, .iconst 3, 1, 0, 0, 0, 0), (1052, .iadd, 1, 0, 0, 0, 0), (1053, .iaload, 1, 0, 0, 0, 0), (1054, .invokevirtual 123, 3, 247, 3, 2011, 0), (1057, .if_icmp .eq 571, 3, 1628, 0, 0, 0), (1060, .iconst 0, 1, 0, 0, 0, 0), (1061, .ireturn, 1, 0, 0, 0, 0), (1062, .aload_n 1, 1, 0, 0, 0, 0), (1063, .invokevirtual 124, 3, 136, 1, 1124, 0), (1066, .aload_n 2, 1, 0, 0, 0, 0), (1067, .invokevirtual 127, 3, 248, 1, 2019, 0), (1070, .if_icmp .eq 558, 3, 1628, 0, 0, 0), (1073, .iconst 0, 1, 0, 0, 0, 0), (1074, .ireturn, 1, 0, 0, 0, 0), (1075, .aload_n 1, 1, 0, 0, 0, 0), (1076, .aload_n 0, 1, 0, 0, 0, 0), (1077, .iload_n 3, 1, 0, 0, 0, 0), (1078, .iconst 1, 1, 0, 0, 0, 0), (1079, .iadd, 1, 0, 0, 0, 0), (1080, .iaload, 1, 0, 0, 0, 0), (1081, .aload_n 0, 1, 0, 0, 0, 0), (1082, .iload_n 3, 1, 0, 0, 0, 0), (1083, .iconst 2, 1, 0, 0, 0, 0), (1084, .iadd, 1, 0, 0, 0, 0), (1085, .iaload, 1, 0, 0, 0, 0), (1086, .aload_n 0, 1, 0, 0, 0, 0), (1087, .iload_n 3, 1, 0, 0, 0, 0), (1088, .iconst 3, 1, 0, 0, 0, 0), (1089, .iadd, 1, 0, 0, 0, 0), (1090, .iaload, 1, 0, 0, 0, 0), (1091, .invokevirtual 128, 3, 137, 4, 1132, 0), (1094, .aload_n 2, 1, 0, 0, 0, 0), (1095, .aload_n 0, 1, 0, 0, 0, 0), (1096, .iload_n 3, 1, 0, 0, 0, 0), (1097, .iconst 1, 1, 0, 0, 0, 0), (1098, .iadd, 1, 0, 0, 0, 0), (1099, .iaload, 1, 0, 0, 0, 0), (1100, .aload_n 0, 1, 0, 0, 0, 0), (1101, .iload_n 3, 1, 0, 0, 0, 0), (1102, .iconst 2, 1, 0, 0, 0, 0), (1103, .iadd, 1, 0, 0, 0, 0), (1104, .iaload, 1, 0, 0, 0, 0), (1105, .aload_n 0, 1, 0, 0, 0, 0), (1106, .iload_n 3, 1, 0, 0, 0, 0), (1107, .iconst 3, 1, 0, 0, 0, 0), (1108, .iadd, 1, 0, 0, 0, 0), (1109, .iaload, 1, 0, 0, 0, 0), (1110, .invokevirtual 132, 3, 256, 4, 2043, 0), (1113, .if_icmp .eq 515, 3, 1628, 0, 0, 0), (1116, .iconst 0, 1, 0, 0, 0, 0), (1117, .ireturn, 1, 0, 0, 0, 0), (1118, .aload_n 1, 1, 0, 0, 0, 0), (1119, .aload_n 0, 1, 0, 0, 0, 0), (1120, .iload_n 3, 1, 0, 0, 0, 0), (1121, .iconst 1, 1, 0, 0, 0, 0), (1122, .iadd, 1, 0, 0, 0, 0), (1123, .iaload, 1, 0, 0, 0, 0), (1124, .invokevirtual 133, 3, 138, 2, 1159, 0), (1127, .aload_n 2, 1, 0, 0, 0, 0), (1128, .aload_n 0, 1, 0, 0, 0, 0), (1129, .iload_n 3, 1, 0, 0, 0, 0), (1130, .iconst 1, 1, 0, 0, 0, 0), (1131, .iadd, 1, 0, 0, 0, 0), (1132, .iaload, 1, 0, 0, 0, 0), (1133, .invokevirtual 136, 3, 257, 2, 2058, 0), (1136, .lcmp, 1, 0, 0, 0, 0), (1137, .ifCond .eq 491, 3, 1628, 0, 0, 0), (1140, .iconst 0, 1, 0, 0, 0, 0), (1141, .ireturn, 1, 0, 0, 0, 0), (1142, .aload_n 1, 1, 0, 0, 0, 0), (1143, .aload_n 0, 1, 0, 0, 0, 0), (1144, .iload_n 3, 1, 0, 0, 0, 0), (1145, .iconst 1, 1, 0, 0, 0, 0), (1146, .iadd, 1, 0, 0, 0, 0), (1147, .iaload, 1, 0, 0, 0, 0), (1148, .i2l, 1, 0, 0, 0, 0), (1149, .bipush 32, 2, 0, 0, 0, 0), (1151, .lshl, 1, 0, 0, 0, 0), (1152, .aload_n 0, 1, 0, 0, 0, 0), (1153, .iload_n 3, 1, 0, 0, 0, 0), (1154, .iconst 2, 1, 0, 0, 0, 0), (1155, .iadd, 1, 0, 0, 0, 0), (1156, .iaload, 1, 0, 0, 0, 0), (1157, .i2l, 1, 0, 0, 0, 0), (1158, .ldc2_w 32, 3, 0, 0, 2278, 4294967295), (1161, .land, 1, 0, 0, 0, 0), (1162, .lor, 1, 0, 0, 0, 0), (1163, .invokevirtual 137, 3, 139, 2, 1168, 0), (1166, .aload_n 2, 1, 0, 0, 0, 0), (1167, .aload_n 0, 1, 0, 0, 0, 0), (1168, .iload_n 3, 1, 0, 0, 0, 0), (1169, .iconst 1, 1, 0, 0, 0, 0), (1170, .iadd, 1, 0, 0, 0, 0), (1171, .iaload, 1, 0, 0, 0, 0), (1172, .i2l, 1, 0, 0, 0, 0), (1173, .bipush 32, 2, 0, 0, 0, 0), (1175, .lshl, 1, 0, 0, 0, 0), (1176, .aload_n 0, 1, 0, 0, 0, 0), (1177, .iload_n 3, 1, 0, 0, 0, 0), (1178, .iconst 2, 1, 0, 0, 0, 0), (1179, .iadd, 1, 0, 0, 0, 0), (1180, .iaload, 1, 0, 0, 0, 0), (1181, .i2l, 1, 0, 0, 0, 0), (1182, .ldc2_w 32, 3, 0, 0, 2278, 4294967295), (1185, .land, 1, 0, 0, 0, 0), (1186, .lor, 1, 0, 0, 0, 0), (1187, .invokevirtual 140, 3, 249, 2, 2027, 0), (1190, .if_icmp .eq 438, 3, 1628, 0, 0, 0), (1193, .iconst 0, 1, 0, 0, 0, 0), (1194, .ireturn, 1, 0, 0, 0, 0), (1195, .aload_n 1, 1, 0, 0, 0, 0), (1196, .aload_n 0, 1, 0, 0, 0, 0), (1197, .iload_n 3, 1, 0, 0, 0, 0), (1198, .iconst 1, 1, 0, 0, 0, 0), (1199, .iadd, 1, 0, 0, 0, 0), (1200, .iaload, 1, 0, 0, 0, 0), (1201, .aload_n 0, 1, 0, 0, 0, 0), (1202, .iload_n 3, 1, 0, 0, 0, 0), (1203, .iconst 2, 1, 0, 0, 0, 0), (1204, .iadd, 1, 0, 0, 0, 0), (1205, .iaload, 1, 0, 0, 0, 0), (1206, .invokevirtual 141, 3, 140, 3, 1173, 0), (1209, .aload_n 2, 1, 0, 0, 0, 0), (1210, .aload_n 0, 1, 0, 0, 0, 0), (1211, .iload_n 3, 1, 0, 0, 0, 0), (1212, .iconst 1, 1, 0, 0, 0, 0), (1213, .iadd, 1, 0, 0, 0, 0), (1214, .iaload, 1, 0, 0, 0, 0), (1215, .aload_n 0, 1, 0, 0, 0, 0), (1216, .iload_n 3, 1, 0, 0, 0, 0), (1217, .iconst 2, 1, 0, 0, 0, 0), (1218, .iadd, 1, 0, 0, 0, 0), (1219, .iaload, 1, 0, 0, 0, 0), (1220, .invokevirtual 144, 3, 250, 3, 2031, 0), (1223, .if_icmp .eq 405, 3, 1628, 0, 0, 0), (1226, .iconst 0, 1, 0, 0, 0, 0), (1227, .ireturn, 1, 0, 0, 0, 0), (1228, .aload_n 1, 1, 0, 0, 0, 0), (1229, .invokevirtual 145, 3, 141, 1, 1177, 0), (1232, .aload_n 2, 1, 0, 0, 0, 0), (1233, .invokevirtual 148, 3, 252, 1, 2035, 0), (1236, .if_icmp .eq 392, 3, 1628, 0, 0, 0), (1239, .iconst 0, 1, 0, 0, 0, 0), (1240, .ireturn, 1, 0, 0, 0, 0), (1241, .aload_n 1, 1, 0, 0, 0, 0), (1242, .invokevirtual 149, 3, 142, 1, 1181, 0), (1245, .aload_n 2, 1, 0, 0, 0, 0), (1246, .invokevirtual 152, 3, 253, 1, 2039, 0), (1249, .if_icmp .eq 379, 3, 1628, 0, 0, 0), (1252, .iconst 0, 1, 0, 0, 0, 0), (1253, .ireturn, 1, 0, 0, 0, 0), (1254, .aload_n 1, 1, 0, 0, 0, 0), (1255, .invokevirtual 153, 3, 143, 1, 1191, 0), (1258, .aload_n 2, 1, 0, 0, 0, 0), (1259, .invokevirtual 156, 3, 273, 1, 2078, 0), (1262, .if_icmp .eq 366, 3, 1628, 0, 0, 0), (1265, .iconst 0, 1, 0, 0, 0, 0), (1266, .ireturn, 1, 0, 0, 0, 0), (1267, .aload_n 1, 1, 0, 0, 0, 0), (1268, .invokevirtual 157, 3, 144, 1, 1233, 0), (1271, .aload_n 2, 1, 0, 0, 0, 0), (1272, .invokevirtual 160, 3, 276, 1, 2126, 0), (1275, .if_icmp .eq 353, 3, 1628, 0, 0, 0), (1278, .iconst 0, 1, 0, 0, 0, 0), (1279, .ireturn, 1, 0, 0, 0, 0), (1280, .aload_n 1, 1, 0, 0, 0, 0), (1281, .aload_n 0, 1, 0, 0, 0, 0), (1282, .iload_n 3, 1, 0, 0, 0, 0), (1283, .iconst 1, 1, 0, 0, 0, 0), (1284, .iadd, 1, 0, 0, 0, 0), (1285, .iaload, 1, 0, 0, 0, 0), (1286, .aload_n 0, 1, 0, 0, 0, 0), (1287, .iload_n 3, 1, 0, 0, 0, 0), (1288, .iconst 2, 1, 0, 0, 0, 0), (1289, .iadd, 1, 0, 0, 0, 0), (1290, .iaload, 1, 0, 0, 0, 0), (1291, .invokevirtual 161, 3, 145, 3, 1263, 0), (1294, .aload_n 2, 1, 0, 0, 0, 0), (1295, .aload_n 0, 1, 0, 0, 0, 0), (1296, .iload_n 3, 1, 0, 0, 0, 0), (1297, .iconst 1, 1, 0, 0, 0, 0), (1298, .iadd, 1, 0, 0, 0, 0), (1299, .iaload, 1, 0, 0, 0, 0), (1300, .aload_n 0, 1, 0, 0, 0, 0), (1301, .iload_n 3, 1, 0, 0, 0, 0), (1302, .iconst 2, 1, 0, 0, 0, 0), (1303, .iadd, 1, 0, 0, 0, 0), (1304, .iaload, 1, 0, 0, 0, 0), (1305, .invokevirtual 164, 3, 277, 3, 2138, 0), (1308, .if_icmp .eq 320, 3, 1628, 0, 0, 0), (1311, .iconst 0, 1, 0, 0, 0, 0), (1312, .ireturn, 1, 0, 0, 0, 0), (1313, .aload_n 1, 1, 0, 0, 0, 0), (1314, .aload_n 0, 1, 0, 0, 0, 0), (1315, .iload_n 3, 1, 0, 0, 0, 0), (1316, .iconst 1, 1, 0, 0, 0, 0), (1317, .iadd, 1, 0, 0, 0, 0), (1318, .iaload, 1, 0, 0, 0, 0), (1319, .invokevirtual 165, 3, 146, 2, 1267, 0), (1322, .aload_n 2, 1, 0, 0, 0, 0), (1323, .aload_n 0, 1, 0, 0, 0, 0), (1324, .iload_n 3, 1, 0, 0, 0, 0), (1325, .iconst 1, 1, 0, 0, 0, 0), (1326, .iadd, 1, 0, 0, 0, 0), (1327, .iaload, 1, 0, 0, 0, 0), (1328, .invokevirtual 168, 3, 278, 2, 2142, 0), (1331, .if_icmp .eq 297, 3, 1628, 0, 0, 0), (1334, .iconst 0, 1, 0, 0, 0, 0), (1335, .ireturn, 1, 0, 0, 0, 0), (1336, .aload_n 1, 1, 0, 0, 0, 0), (1337, .aload_n 0, 1, 0, 0, 0, 0), (1338, .iload_n 3, 1, 0, 0, 0, 0), (1339, .iconst 1, 1, 0, 0, 0, 0), (1340, .iadd, 1, 0, 0, 0, 0), (1341, .iaload, 1, 0, 0, 0, 0), (1342, .invokevirtual 169, 3, 147, 2, 1271, 0), (1345, .aload_n 2, 1, 0, 0, 0, 0), (1346, .aload_n 0, 1, 0, 0, 0, 0), (1347, .iload_n 3, 1, 0, 0, 0, 0), (1348, .iconst 1, 1, 0, 0, 0, 0), (1349, .iadd, 1, 0, 0, 0, 0), (1350, .iaload, 1, 0, 0, 0, 0), (1351, .invokevirtual 172, 3, 279, 2, 2146, 0), (1354, .if_icmp .eq 274, 3, 1628, 0, 0, 0), (1357, .iconst 0, 1, 0, 0, 0, 0), (1358, .ireturn, 1, 0, 0, 0, 0), (1359, .aload_n 1, 1, 0, 0, 0, 0), (1360, .invokevirtual 173, 3, 148, 1, 1275, 0), (1363, .aload_n 2, 1, 0, 0, 0, 0), (1364, .invokevirtual 176, 3, 280, 1, 2151, 0), (1367, .if_icmp .eq 261, 3, 1628, 0, 0, 0), (1370, .iconst 0, 1, 0, 0, 0, 0), (1371, .ireturn, 1, 0, 0, 0, 0), (1372, .aload_n 1, 1, 0, 0, 0, 0), (1373, .aload_n 0, 1, 0, 0, 0, 0), (1374, .iload_n 3, 1, 0, 0, 0, 0), (1375, .iconst 1, 1, 0, 0, 0, 0), (1376, .iadd, 1, 0, 0, 0, 0), (1377, .iaload, 1, 0, 0, 0, 0), (1378, .aload_n 0, 1, 0, 0, 0, 0), (1379, .iload_n 3, 1, 0, 0, 0, 0), (1380, .iconst 2, 1, 0, 0, 0, 0), (1381, .iadd, 1, 0, 0, 0, 0), (1382, .iaload, 1, 0, 0, 0, 0), (1383, .invokevirtual 177, 3, 149, 3, 1290, 0), (1386, .aload_n 2, 1, 0, 0, 0, 0), (1387, .aload_n 0, 1, 0, 0, 0, 0), (1388, .iload_n 3, 1, 0, 0, 0, 0), (1389, .iconst 1, 1, 0, 0, 0, 0), (1390, .iadd, 1, 0, 0, 0, 0), (1391, .iaload, 1, 0, 0, 0, 0), (1392, .aload_n 0, 1, 0, 0, 0, 0), (1393, .iload_n 3, 1, 0, 0, 0, 0), (1394, .iconst 2, 1, 0, 0, 0, 0), (1395, .iadd, 1, 0, 0, 0, 0), (1396, .iaload, 1, 0, 0, 0, 0), (1397, .invokevirtual 180, 3, 281, 3, 2155, 0), (1400, .if_icmp .eq 228, 3, 1628, 0, 0, 0), (1403, .iconst 0, 1, 0, 0, 0, 0), (1404, .ireturn, 1, 0, 0, 0, 0), (1405, .aload_n 1, 1, 0, 0, 0, 0), (1406, .aload_n 0, 1, 0, 0, 0, 0), (1407, .iload_n 3, 1, 0, 0, 0, 0), (1408, .iconst 1, 1, 0, 0, 0, 0), (1409, .iadd, 1, 0, 0, 0, 0), (1410, .iaload, 1, 0, 0, 0, 0), (1411, .invokevirtual 181, 3, 150, 2, 1294, 0), (1414, .aload_n 2, 1, 0, 0, 0, 0), (1415, .aload_n 0, 1, 0, 0, 0, 0), (1416, .iload_n 3, 1, 0, 0, 0, 0), (1417, .iconst 1, 1, 0, 0, 0, 0), (1418, .iadd, 1, 0, 0, 0, 0), (1419, .iaload, 1, 0, 0, 0, 0), (1420, .invokevirtual 184, 3, 283, 2, 2164, 0), (1423, .if_icmp .eq 205, 3, 1628, 0, 0, 0), (1426, .iconst 0, 1, 0, 0, 0, 0), (1427, .ireturn, 1, 0, 0, 0, 0), (1428, .aload_n 1, 1, 0, 0, 0, 0), (1429, .aload_n 0, 1, 0, 0, 0, 0), (1430, .iload_n 3, 1, 0, 0, 0, 0), (1431, .iconst 1, 1, 0, 0, 0, 0), (1432, .iadd, 1, 0, 0, 0, 0), (1433, .iaload, 1, 0, 0, 0, 0), (1434, .invokevirtual 185, 3, 151, 2, 1302, 0), (1437, .aload_n 2, 1, 0, 0, 0, 0), (1438, .aload_n 0, 1, 0, 0, 0, 0), (1439, .iload_n 3, 1, 0, 0, 0, 0), (1440, .iconst 1, 1, 0, 0, 0, 0), (1441, .iadd, 1, 0, 0, 0, 0), (1442, .iaload, 1, 0, 0, 0, 0), (1443, .invokevirtual 188, 3, 284, 2, 2168, 0), (1446, .if_icmp .eq 182, 3, 1628, 0, 0, 0), (1449, .iconst 0, 1, 0, 0, 0, 0), (1450, .ireturn, 1, 0, 0, 0, 0), (1451, .aload_n 1, 1, 0, 0, 0, 0), (1452, .invokevirtual 189, 3, 152, 1, 1306, 0), (1455, .aload_n 2, 1, 0, 0, 0, 0), (1456, .invokevirtual 192, 3, 287, 1, 2172, 0), (1459, .if_icmp .eq 169, 3, 1628, 0, 0, 0), (1462, .iconst 0, 1, 0, 0, 0, 0), (1463, .ireturn, 1, 0, 0, 0, 0), (1464, .aload_n 1, 1, 0, 0, 0, 0), (1465, .invokevirtual 193, 3, 153, 1, 1317, 0), (1468, .aload_n 2, 1, 0, 0, 0, 0), (1469, .invokevirtual 196, 3, 288, 1, 2184, 0), (1472, .if_icmp .eq 156, 3, 1628, 0, 0, 0), (1475, .iconst 0, 1, 0, 0, 0, 0), (1476, .ireturn, 1, 0, 0, 0, 0), (1477, .aload_n 1, 1, 0, 0, 0, 0), (1478, .invokevirtual 197, 3, 154, 1, 1325, 0), (1481, .aload_n 2, 1, 0, 0, 0, 0), (1482, .invokevirtual 200, 3, 289, 1, 2188, 0), (1485, .if_icmp .eq 143, 3, 1628, 0, 0, 0), (1488, .iconst 0, 1, 0, 0, 0, 0), (1489, .ireturn, 1, 0, 0, 0, 0), (1490, .aload_n 1, 1, 0, 0, 0, 0), (1491, .aload_n 0, 1, 0, 0, 0, 0), (1492, .iload_n 3, 1, 0, 0, 0, 0), (1493, .iconst 1, 1, 0, 0, 0, 0), (1494, .iadd, 1, 0, 0, 0, 0), (1495, .iaload, 1, 0, 0, 0, 0), (1496, .invokevirtual 201, 3, 157, 2, 1336, 0), (1499, .aload_n 2, 1, 0, 0, 0, 0), (1500, .aload_n 0, 1, 0, 0, 0, 0), (1501, .iload_n 3, 1, 0, 0, 0, 0), (1502, .iconst 1, 1, 0, 0, 0, 0), (1503, .iadd, 1, 0, 0, 0, 0), (1504, .iaload, 1, 0, 0, 0, 0), (1505, .invokevirtual 204, 3, 303, 2, 2192, 0), (1508, .if_icmp .eq 120, 3, 1628, 0, 0, 0), (1511, .iconst 0, 1, 0, 0, 0, 0), (1512, .ireturn, 1, 0, 0, 0, 0), (1513, .aload_n 1, 1, 0, 0, 0, 0), (1514, .aload_n 0, 1, 0, 0, 0, 0), (1515, .iload_n 3, 1, 0, 0, 0, 0), (1516, .iconst 1, 1, 0, 0, 0, 0), (1517, .iadd, 1, 0, 0, 0, 0), (1518, .iaload, 1, 0, 0, 0, 0), (1519, .invokevirtual 205, 3, 158, 2, 1409, 0), (1522, .aload_n 2, 1, 0, 0, 0, 0), (1523, .aload_n 0, 1, 0, 0, 0, 0), (1524, .iload_n 3, 1, 0, 0, 0, 0), (1525, .iconst 1, 1, 0, 0, 0, 0), (1526, .iadd, 1, 0, 0, 0, 0), (1527, .iaload, 1, 0, 0, 0, 0), (1528, .invokevirtual 208, 3, 304, 2, 2250, 0), (1531, .if_icmp .eq 97, 3, 1628, 0, 0, 0), (1534, .iconst 0, 1, 0, 0, 0, 0), (1535, .ireturn, 1, 0, 0, 0, 0), (1536, .aload_n 1, 1, 0, 0, 0, 0), (1537, .aload_n 0, 1, 0, 0, 0, 0), (1538, .iload_n 3, 1, 0, 0, 0, 0), (1539, .iconst 1, 1, 0, 0, 0, 0), (1540, .iadd, 1, 0, 0, 0, 0), (1541, .iaload, 1, 0, 0, 0, 0), (1542, .aload_n 0, 1, 0, 0, 0, 0), (1543, .iload_n 3, 1, 0, 0, 0, 0), (1544, .iconst 2, 1, 0, 0, 0, 0), (1545, .iadd, 1, 0, 0, 0, 0), (1546, .iaload, 1, 0, 0, 0, 0), (1547, .invokevirtual 209, 3, 159, 3, 1413, 0), (1550, .aload_n 2, 1, 0, 0, 0, 0), (1551, .aload_n 0, 1, 0, 0, 0, 0), (1552, .iload_n 3, 1, 0, 0, 0, 0), (1553, .iconst 1, 1, 0, 0, 0, 0), (1554, .iadd, 1, 0, 0, 0, 0), (1555, .iaload, 1, 0, 0, 0, 0), (1556, .aload_n 0, 1, 0, 0, 0, 0), (1557, .iload_n 3, 1, 0, 0, 0, 0), (1558, .iconst 2, 1, 0, 0, 0, 0), (1559, .iadd, 1, 0, 0, 0, 0), (1560, .iaload, 1, 0, 0, 0, 0), (1561, .invokevirtual 213, 3, 306, 3, 2254, 0), (1564, .if_icmp .eq 64, 3, 1628, 0, 0, 0), (1567, .iconst 0, 1, 0, 0, 0, 0), (1568, .ireturn, 1, 0, 0, 0, 0), (1569, .aload_n 1, 1, 0, 0, 0, 0), (1570, .aload_n 0, 1, 0, 0, 0, 0), (1571, .iload_n 3, 1, 0, 0, 0, 0), (1572, .iconst 1, 1, 0, 0, 0, 0), (1573, .iadd, 1, 0, 0, 0, 0), (1574, .iaload, 1, 0, 0, 0, 0), (1575, .aload_n 0, 1, 0, 0, 0, 0), (1576, .iload_n 3, 1, 0, 0, 0, 0), (1577, .iconst 2, 1, 0, 0, 0, 0), (1578, .iadd, 1, 0, 0, 0, 0), (1579, .iaload, 1, 0, 0, 0, 0), (1580, .invokevirtual 214, 3, 160, 3, 1422, 0), (1583, .aload_n 2, 1, 0, 0, 0, 0), (1584, .aload_n 0, 1, 0, 0, 0, 0), (1585, .iload_n 3, 1, 0, 0, 0, 0), (1586, .iconst 1, 1, 0, 0, 0, 0), (1587, .iadd, 1, 0, 0, 0, 0), (1588, .iaload, 1, 0, 0, 0, 0), (1589, .aload_n 0, 1, 0, 0, 0, 0), (1590, .iload_n 3, 1, 0, 0, 0, 0), (1591, .iconst 2, 1, 0, 0, 0, 0), (1592, .iadd, 1, 0, 0, 0, 0), (1593, .iaload, 1, 0, 0, 0, 0), (1594, .invokevirtual 217, 3, 307, 3, 2262, 0), (1597, .if_icmp .eq 31, 3, 1628, 0, 0, 0), (1600, .iconst 0, 1, 0, 0, 0, 0), (1601, .ireturn, 1, 0, 0, 0, 0), (1602, .aload_n 1, 1, 0, 0, 0, 0), (1603, .invokevirtual 218, 3, 162, 1, 1426, 0), (1606, .aload_n 2, 1, 0, 0, 0, 0), (1607, .invokevirtual 221, 3, 309, 1, 2266, 0), (1610, .if_icmp .eq 18, 3, 1628, 0, 0, 0), (1613, .iconst 0, 1, 0, 0, 0, 0), (1614, .ireturn, 1, 0, 0, 0, 0), (1615, .aload_n 1, 1, 0, 0, 0, 0), (1616, .invokevirtual 222, 3, 163, 1, 1430, 0), (1619, .aload_n 2, 1, 0, 0, 0, 0), (1620, .invokevirtual 225, 3, 310, 1, 2274, 0), (1623, .if_icmp .eq 5, 3, 1628, 0, 0, 0), (1626, .iconst 0, 1, 0, 0, 0, 0), (1627, .ireturn, 1, 0, 0, 0, 0), (1628, .iinc 3 6, 3, 0, 0, 0, 0), (1631, .goto (-1613), 3, 18, 0, 0, 0), (1634, .iconst 1, 1, 0, 0, 0, 0), (1635, .ireturn, 1, 0, 0, 0, 0)]
def x_tabs : List (List (Nat × x_Row)) := [x_t_X0_init, x_t_X0_lettersOf, x_t_X0_find, x_t_X0_extend, x_t_X0_fitsLast, x_t_X0_heardInRow, x_t_X0_callTold, x_t_X0_blastsTold, x_t_X1_init, x_t_X1_takeAll, x_t_X1_takeShips, x_t_X1_takeCarts, x_t_X1_turnEnd, x_t_X1_leastWaits, x_t_X1_canPassWithin, x_t_X1_allCanPass, x_t_X1_canEndWithin, x_t_X1_search, x_t_X1_canBegin, x_t_X1_waitsOf, x_t_X1_layPlan, x_t_X1_shipMayBegin, x_t_X1_cartMayBegin, x_t_X1_addAct, x_t_X1_tellPlan, x_t_X1_dearestByPlan, x_t_X1_waitsByNumber, x_t_X1_openedByPlan, x_t_X1_busiestByPlan, x_t_X1_waitingIn, x_t_X2_init, x_t_X2_spendDay, x_t_X2_comeLater, x_t_X2_delay, x_t_X2_endWhatIsOver, x_t_X2_strikeSails, x_t_X2_strikeIfDue, x_t_X2_firstShipLeft, x_t_X2_obey, x_t_X2_gatherFacts, x_t_X2_beginNext, x_t_X2_begin, x_t_X2_left, x_t_X2_tellDay, x_t_X4_init, x_t_X4_clear, x_t_X4_join, x_t_X4_put, x_t_X5_init, x_t_X5_turnLength, x_t_X5_soundOf, x_t_X5_withEcho, x_t_X5_heardOf, x_t_X5_bothHeard, x_t_X5_leastBeats, x_t_X5_countReadings, x_t_X5_countBeats, x_t_X5_couplesAlike, x_t_X6_init, x_t_X6_readAll, x_t_X6_readPort, x_t_X6_readTurns, x_t_X6_readFrost, x_t_X6_readEcho, x_t_X6_readShip, x_t_X6_readCart, x_t_X6_readComing, x_t_X6_takeNewName, x_t_X6_portNamed, x_t_X7_init, x_t_X7_addStep, x_t_X7_endRule, x_t_X7_actBy, x_t_X7_holds, x_t_X7_compares, x_t_X8_init, x_t_X8_readAll, x_t_X8_readRule, x_t_X8_actTold, x_t_X8_readEither, x_t_X8_readBoth, x_t_X8_readOne, x_t_X8_readNested, x_t_X8_factTold, x_t_X8_readCase, x_t_X8_comparesTold, x_t_X9_init, x_t_X9_step, x_t_X9_stepWord, x_t_X9_stepNumber, x_t_X9_isSign, x_t_X9_refuseToken, x_t_X9_isName, x_t_X9_isBlasts, x_t_X9_isSignOf, x_t_X9_takeKeyword, x_t_X9_takeSign, x_t_X9_takeNumber, x_t_X10_init, x_t_X10_lay, x_t_X10_isMissing, x_t_X10_hasStretch, x_t_X10_put, x_t_X11_init, x_t_X11_status, x_t_X11_top, x_t_X11_bottom, x_t_X11_tray, x_t_X11_write, x_t_X11_read, x_t_X11_pour, x_t_X11_isTray, x_t_X11_wrongPlace, x_t_X11_feed, x_t_X11_feedOne, x_t_X11_river, x_t_X11_rules, x_t_X11_endText, x_t_X11_fault, x_t_X11_told, x_t_X11_ship, x_t_X11_cart, x_t_X11_nextShip, x_t_X11_nextCart, x_t_X11_isPort, x_t_X11_isShip, x_t_X11_isCart, x_t_X11_sound, x_t_X11_heard, x_t_X11_together, x_t_X11_lasts, x_t_X11_far, x_t_X11_readings, x_t_X11_addReading, x_t_X11_reading, x_t_X11_doubt, x_t_X11_alike, x_t_X11_code, x_t_X11_codeAt, x_t_X11_parts, x_t_X11_clearBeats, x_t_X11_clearEcho, x_t_X11_silent, x_t_X11_least, x_t_X11_plan, x_t_X11_planAt, x_t_X11_worth, x_t_X11_quicker, x_t_X11_away, x_t_X11_later, x_t_X11_slack, x_t_X11_without, x_t_X11_dearest, x_t_X11_opened, x_t_X11_busiest, x_t_X11_leastAsTold, x_t_X11_answerWaits, x_t_X11_keep, x_t_X11_kept, x_t_X11_odds, x_t_X11_waits, x_t_X11_wrongSeeds, x_t_X11_mark, x_t_X11_back, x_t_X11_answer, x_t_X11_answerLong, x_t_X11_grant, x_t_X11_refuse, x_t_X11_deny, x_t_X11_tellFraction, x_t_X11_commonDivisor, x_t_X12_init, x_t_X12_status, x_t_X12_top, x_t_X12_bottom, x_t_X12_is, x_t_X12_refuse, x_t_X12_gives, x_t_X12_orNone, x_t_X12_givesLong, x_t_X12_tellsBy, x_t_X12_isTray, x_t_X12_cut, x_t_X12_tray, x_t_X12_wrongPlace, x_t_X12_write, x_t_X12_read, x_t_X12_pour, x_t_X12_isFrom, x_t_X12_feed, x_t_X12_four, x_t_X12_byteAt, x_t_X12_isSmall, x_t_X12_isDigit, x_t_X12_ahead, x_t_X12_isSign, x_t_X12_inWords, x_t_X12_fails, x_t_X12_begins, x_t_X12_wantSign, x_t_X12_wantWord, x_t_X12_number, x_t_X12_isName, x_t_X12_nameHere, x_t_X12_findHere, x_t_X12_fault, x_t_X12_taken, x_t_X12_aNewName, x_t_X12_areBlasts, x_t_X12_aPort, x_t_X12_aShip, x_t_X12_passes, x_t_X12_aCart, x_t_X12_once, x_t_X12_riverPart, x_t_X12_river, x_t_X12_asksAlso, x_t_X12_isDoing, x_t_X12_does, x_t_X12_joins, x_t_X12_turnsRound, x_t_X12_isWithin, x_t_X12_aCase, x_t_X12_aOne, x_t_X12_conditions, x_t_X12_aRule, x_t_X12_rules, x_t_X12_isPort, x_t_X12_isShip, x_t_X12_isCart, x_t_X12_told, x_t_X12_ship, x_t_X12_cart, x_t_X12_beatsOf, x_t_X12_soundOf, x_t_X12_echoed, x_t_X12_heardOf, x_t_X12_bits, x_t_X12_sound, x_t_X12_heard, x_t_X12_together, x_t_X12_lasts, x_t_X12_far, x_t_X12_reads, x_t_X12_findsReadings, x_t_X12_readings, x_t_X12_reading, x_t_X12_doubt, x_t_X12_alike, x_t_X12_parts, x_t_X12_clearBeats, x_t_X12_alikeBy, x_t_X12_clearEcho, x_t_X12_silent, x_t_X12_laysCalls, x_t_X12_isCode, x_t_X12_code, x_t_X12_codeAt, x_t_X12_tellsMinutes, x_t_X12_orders, x_t_X12_nextShip, x_t_X12_nextCart, x_t_X12_ofShip, x_t_X12_ofCart, x_t_X12_turnTime, x_t_X12_stateOf, x_t_X12_leftAt, x_t_X12_mayShip, x_t_X12_mayCart, x_t_X12_byShip, x_t_X12_byCart, x_t_X12_reckons, x_t_X12_leastBy, x_t_X12_least, x_t_X12_acts, x_t_X12_plans, x_t_X12_plan, x_t_X12_planAt, x_t_X12_worth, x_t_X12_quicker, x_t_X12_away, x_t_X12_later, x_t_X12_laterBy, x_t_X12_slack, x_t_X12_without, x_t_X12_cameBy, x_t_X12_costsBy, x_t_X12_dearest, x_t_X12_opened, x_t_X12_busiest, x_t_X12_draw, x_t_X12_waitingShips, x_t_X12_waitingCarts, x_t_X12_nextIn, x_t_X12_asked, x_t_X12_holds, x_t_X12_actNow, x_t_X12_passesOver, x_t_X12_isBusy, x_t_X12_strikes, x_t_X12_minuteGoes, x_t_X12_leftOver, x_t_X12_keeps, x_t_X12_keep, x_t_X12_kept, x_t_X12_areSeeds, x_t_X12_odds, x_t_X12_waits, x_t_X12_copies, x_t_X12_mark, x_t_X12_back, x_t_J6_numberOfLeadingZeros_0f7a4, x_t_J6_numberOfTrailingZeros_0f7a4, x_t_J6_bitCount_0f7a4, x_t_J13_numberOfLeadingZeros_95d88, x_t_J13_numberOfTrailingZeros_95d88, x_t_J13_bitCount_95d88, x_t_J0_length_8abf5, x_t_J0_charAt_5068e, x_t_J0_coder_7d493, x_t_J0_isLatin1_aae02, x_t_J0_checkIndex_df160, x_t_J1_charAt_3b067, x_t_J2_getChar_3b067, x_t_J2_length_9d52b, x_t_J2_charAt_3b067, x_t_J2_checkIndex_2214a, x_t_J3_checkIndex_8e157, x_t_L_law]
/-- a method: its name, bytes, locals, result; places of its words: code, (instanceMethod or static), selects, initialized; is it static; its class by number (100: String, 99: another) -/
abbrev x_Inf : Type := MethodName × ByteArray × Nat × Option FieldType × (Nat × Nat × Nat × Nat) × Bool × Nat
def x_infs_0 : List x_Inf := [(yX0_init, cX0_init, 3, none, (334, 333, 0, 188), false, 0), (yX0_lettersOf, cX0_lettersOf, 5, (some .long), (338, 337, 0, 188), true, 0), (yX0_find, cX0_find, 6, (some .boolean), (1139, 1138, 61, 188), false, 0), (yX0_extend, cX0_extend, 6, (some .boolean), (1145, 1144, 62, 188), false, 0), (yX0_fitsLast, cX0_fitsLast, 6, (some .boolean), (1149, 1148, 63, 188), false, 0), (yX0_heardInRow, cX0_heardInRow, 2, (some .long), (1153, 1152, 64, 188), false, 0), (yX0_callTold, cX0_callTold, 2, (some .long), (1166, 1165, 66, 188), false, 0), (yX0_blastsTold, cX0_blastsTold, 3, (some .int), (1158, 1157, 65, 188), false, 0), (yX1_init, cX1_init, 1, none, (367, 366, 0, 189), false, 1), (yX1_takeAll, cX1_takeAll, 2, none, (1202, 1201, 68, 189), false, 1), (yX1_takeShips, cX1_takeShips, 7, none, (1020, 1019, 48, 189), false, 1), (yX1_takeCarts, cX1_takeCarts, 4, none, (1037, 1036, 51, 189), false, 1), (yX1_turnEnd, cX1_turnEnd, 2, (some .int), (1216, 1215, 71, 189), false, 1), (yX1_leastWaits, cX1_leastWaits, 1, (some .int), (1208, 1207, 69, 189), false, 1), (yX1_canPassWithin, cX1_canPassWithin, 2, (some .boolean), (1301, 1300, 81, 189), false, 1), (yX1_allCanPass, cX1_allCanPass, 1, (some .boolean), (1288, 1287, 80, 189), false, 1), (yX1_canEndWithin, cX1_canEndWithin, 6, (some .boolean), (1249, 1248, 76, 189), false, 1), (yX1_search, cX1_search, 8, none, (1212, 1211, 70, 189), false, 1), (yX1_canBegin, cX1_canBegin, 3, (some .boolean), (1224, 1223, 0, 189), true, 1), (yX1_waitsOf, cX1_waitsOf, 3, (some .int), (1227, 1226, 0, 189), true, 1), (yX1_layPlan, cX1_layPlan, 7, (some .boolean), (1240, 1239, 74, 189), false, 1), (yX1_shipMayBegin, cX1_shipMayBegin, 6, (some .boolean), (1245, 1244, 75, 189), false, 1), (yX1_cartMayBegin, cX1_cartMayBegin, 6, (some .boolean), (1257, 1256, 78, 189), false, 1), (yX1_addAct, cX1_addAct, 4, none, (1253, 1252, 77, 189), false, 1), (yX1_tellPlan, cX1_tellPlan, 1, none, (1261, 1260, 79, 189), false, 1), (yX1_dearestByPlan, cX1_dearestByPlan, 6, (some .int), (1313, 1312, 82, 189), false, 1), (yX1_waitsByNumber, cX1_waitsByNumber, 4, (some .int), (1316, 1315, 0, 189), true, 1), (yX1_openedByPlan, cX1_openedByPlan, 6, (some .int), (1324, 1323, 83, 189), false, 1), (yX1_busiestByPlan, cX1_busiestByPlan, 5, (some .int), (1332, 1331, 84, 189), false, 1), (yX1_waitingIn, cX1_waitingIn, 5, (some .int), (1335, 1334, 0, 189), true, 1), (yX2_init, cX2_init, 1, none, (418, 417, 0, 190), false, 2), (yX2_spendDay, cX2_spendDay, 4, none, (1343, 1342, 85, 190), false, 2), (yX2_comeLater, cX2_comeLater, 4, none, (1347, 1346, 86, 190), false, 2), (yX2_delay, cX2_delay, 2, (some .int), (1352, 1351, 87, 190), false, 2), (yX2_endWhatIsOver, cX2_endWhatIsOver, 1, none, (1358, 1357, 88, 190), false, 2), (yX2_strikeSails, cX2_strikeSails, 3, none, (1366, 1365, 90, 190), false, 2), (yX2_strikeIfDue, cX2_strikeIfDue, 2, none, (1374, 1373, 92, 190), false, 2), (yX2_firstShipLeft, cX2_firstShipLeft, 2, (some .int), (1370, 1369, 91, 190), false, 2), (yX2_obey, cX2_obey, 6, none, (1378, 1377, 93, 190), false, 2), (yX2_gatherFacts, cX2_gatherFacts, 5, none, (1382, 1381, 94, 190), false, 2)]
def x_infs_1 : List x_Inf := [(yX2_beginNext, cX2_beginNext, 2, none, (1400, 1399, 98, 190), false, 2), (yX2_begin, cX2_begin, 4, none, (1404, 1403, 99, 190), false, 2), (yX2_left, cX2_left, 3, (some .int), (1362, 1361, 89, 190), false, 2), (yX2_tellDay, cX2_tellDay, 1, none, (1408, 1407, 100, 190), false, 2), (yX4_init, cX4_init, 1, none, (227, 226, 0, 187), false, 3), (yX4_clear, cX4_clear, 1, none, (1024, 1023, 49, 187), false, 3), (yX4_join, cX4_join, 5, none, (1028, 1027, 50, 187), false, 3), (yX4_put, cX4_put, 7, none, (830, 829, 28, 187), false, 3), (yX5_init, cX5_init, 1, none, (221, 220, 0, 186), false, 4), (yX5_turnLength, cX5_turnLength, 3, (some .int), (1220, 1219, 72, 186), false, 4), (yX5_soundOf, cX5_soundOf, 7, (some .long), (777, 776, 0, 186), true, 4), (yX5_withEcho, cX5_withEcho, 3, (some .long), (1056, 1055, 0, 186), true, 4), (yX5_heardOf, cX5_heardOf, 2, (some .long), (1053, 1052, 53, 186), false, 4), (yX5_bothHeard, cX5_bothHeard, 4, (some .long), (1064, 1063, 54, 186), false, 4), (yX5_leastBeats, cX5_leastBeats, 3, (some .int), (1098, 1097, 56, 186), false, 4), (yX5_countReadings, cX5_countReadings, 7, (some .int), (1110, 1109, 57, 186), false, 4), (yX5_countBeats, cX5_countBeats, 7, (some .int), (1114, 1113, 58, 186), false, 4), (yX5_couplesAlike, cX5_couplesAlike, 5, (some .int), (1131, 1130, 60, 186), false, 4), (yX6_init, cX6_init, 2, none, (710, 709, 0, 194), false, 5), (yX6_readAll, cX6_readAll, 3, (some .boolean), (744, 743, 14, 194), false, 5), (yX6_readPort, cX6_readPort, 3, (some .boolean), (750, 749, 15, 194), false, 5), (yX6_readTurns, cX6_readTurns, 1, (some .boolean), (786, 785, 21, 194), false, 5), (yX6_readFrost, cX6_readFrost, 1, (some .boolean), (796, 795, 23, 194), false, 5), (yX6_readEcho, cX6_readEcho, 1, (some .boolean), (804, 803, 24, 194), false, 5), (yX6_readShip, cX6_readShip, 3, (some .boolean), (810, 809, 25, 194), false, 5), (yX6_readCart, cX6_readCart, 1, (some .boolean), (838, 837, 29, 194), false, 5), (yX6_readComing, cX6_readComing, 5, (some .boolean), (820, 819, 27, 194), false, 5), (yX6_takeNewName, cX6_takeNewName, 2, (some .boolean), (759, 758, 17, 194), false, 5), (yX6_portNamed, cX6_portNamed, 4, (some .int), (816, 815, 26, 194), false, 5), (yX7_init, cX7_init, 3, none, (864, 863, 0, 204), false, 6), (yX7_addStep, cX7_addStep, 4, none, (963, 962, 41, 204), false, 6), (yX7_endRule, cX7_endRule, 2, none, (988, 987, 45, 204), false, 6), (yX7_actBy, cX7_actBy, 4, (some .int), (1386, 1385, 95, 204), false, 6), (yX7_holds, cX7_holds, 9, (some .boolean), (1390, 1389, 96, 204), false, 6), (yX7_compares, cX7_compares, 4, (some .boolean), (1395, 1394, 97, 204), false, 6), (yX8_init, cX8_init, 3, none, (895, 894, 0, 203), false, 7), (yX8_readAll, cX8_readAll, 2, (some .boolean), (912, 911, 34, 203), false, 7), (yX8_readRule, cX8_readRule, 2, (some .boolean), (916, 915, 35, 203), false, 7), (yX8_actTold, cX8_actTold, 1, (some .int), (982, 981, 44, 203), false, 7), (yX8_readEither, cX8_readEither, 3, (some .boolean), (924, 923, 36, 203), false, 7)]
def x_infs_2 : List x_Inf := [(yX8_readBoth, cX8_readBoth, 3, (some .boolean), (928, 927, 37, 203), false, 7), (yX8_readOne, cX8_readOne, 4, (some .boolean), (932, 931, 38, 203), false, 7), (yX8_readNested, cX8_readNested, 3, (some .boolean), (957, 956, 40, 203), false, 7), (yX8_factTold, cX8_factTold, 1, (some .int), (939, 938, 39, 203), false, 7), (yX8_readCase, cX8_readCase, 3, (some .boolean), (967, 966, 42, 203), false, 7), (yX8_comparesTold, cX8_comparesTold, 1, (some .int), (971, 970, 43, 203), false, 7), (yX9_init, cX9_init, 3, none, (639, 638, 0, 195), false, 8), (yX9_step, cX9_step, 2, none, (647, 646, 11, 195), false, 8), (yX9_stepWord, cX9_stepWord, 2, none, (651, 650, 12, 195), false, 8), (yX9_stepNumber, cX9_stepNumber, 1, none, (658, 657, 13, 195), false, 8), (yX9_isSign, cX9_isSign, 1, (some .boolean), (661, 660, 0, 195), true, 8), (yX9_refuseToken, cX9_refuseToken, 2, (some .boolean), (754, 753, 16, 195), false, 8), (yX9_isName, cX9_isName, 1, (some .boolean), (763, 762, 18, 195), false, 8), (yX9_isBlasts, cX9_isBlasts, 2, (some .boolean), (774, 773, 20, 195), false, 8), (yX9_isSignOf, cX9_isSignOf, 2, (some .boolean), (846, 845, 31, 195), false, 8), (yX9_takeKeyword, cX9_takeKeyword, 2, (some .boolean), (769, 768, 19, 195), false, 8), (yX9_takeSign, cX9_takeSign, 2, (some .boolean), (842, 841, 30, 195), false, 8), (yX9_takeNumber, cX9_takeNumber, 3, (some .boolean), (790, 789, 22, 195), false, 8), (yX10_init, cX10_init, 1, none, (481, 480, 0, 191), false, 9), (yX10_lay, cX10_lay, 4, none, (577, 576, 2, 191), false, 9), (yX10_isMissing, cX10_isMissing, 1, (some .boolean), (593, 592, 5, 191), false, 9), (yX10_hasStretch, cX10_hasStretch, 3, (some .boolean), (597, 596, 6, 191), false, 9), (yX10_put, cX10_put, 4, none, (601, 600, 7, 191), false, 9), (yX11_init, cX11_init, 2, none, (211, 210, 0, 185), false, 10), (yX11_status, cX11_status, 1, (some .int), (553, 551, 552, 185), false, 10), (yX11_top, cX11_top, 1, (some .long), (557, 555, 556, 185), false, 10), (yX11_bottom, cX11_bottom, 1, (some .long), (561, 559, 560, 185), false, 10), (yX11_tray, cX11_tray, 4, (some .boolean), (565, 563, 564, 185), false, 10), (yX11_write, cX11_write, 6, (some .boolean), (585, 583, 584, 185), false, 10), (yX11_read, cX11_read, 4, (some .long), (605, 603, 604, 185), false, 10), (yX11_pour, cX11_pour, 8, (some .boolean), (617, 615, 616, 185), false, 10), (yX11_isTray, cX11_isTray, 2, (some .boolean), (569, 568, 0, 185), false, 10), (yX11_wrongPlace, cX11_wrongPlace, 3, (some .int), (589, 588, 4, 185), false, 10), (yX11_feed, cX11_feed, 6, (some .int), (624, 622, 623, 185), false, 10), (yX11_feedOne, cX11_feedOne, 3, none, (628, 627, 10, 185), false, 10), (yX11_river, cX11_river, 4, (some .int), (632, 630, 631, 185), false, 10), (yX11_rules, cX11_rules, 4, (some .int), (858, 856, 857, 185), false, 10), (yX11_endText, cX11_endText, 2, none, (850, 849, 32, 185), false, 10), (yX11_fault, cX11_fault, 2, (some .int), (992, 990, 991, 185), false, 10), (yX11_told, cX11_told, 2, (some .int), (996, 994, 995, 185), false, 10)]
def x_infs_3 : List x_Inf := [(yX11_ship, cX11_ship, 3, (some .int), (1000, 998, 999, 185), false, 10), (yX11_cart, cX11_cart, 3, (some .int), (1008, 1006, 1007, 185), false, 10), (yX11_nextShip, cX11_nextShip, 2, (some .int), (1016, 1014, 1015, 185), false, 10), (yX11_nextCart, cX11_nextCart, 2, (some .int), (1033, 1031, 1032, 185), false, 10), (yX11_isPort, cX11_isPort, 2, (some .boolean), (1045, 1044, 52, 185), false, 10), (yX11_isShip, cX11_isShip, 2, (some .boolean), (1004, 1003, 46, 185), false, 10), (yX11_isCart, cX11_isCart, 2, (some .boolean), (1012, 1011, 47, 185), false, 10), (yX11_sound, cX11_sound, 2, (some .long), (1041, 1039, 1040, 185), false, 10), (yX11_heard, cX11_heard, 2, (some .long), (1049, 1047, 1048, 185), false, 10), (yX11_together, cX11_together, 4, (some .long), (1060, 1058, 1059, 185), false, 10), (yX11_lasts, cX11_lasts, 2, (some .int), (1069, 1067, 1068, 185), false, 10), (yX11_far, cX11_far, 3, (some .int), (1080, 1078, 1079, 185), false, 10), (yX11_readings, cX11_readings, 6, (some .int), (1090, 1088, 1089, 185), false, 10), (yX11_addReading, cX11_addReading, 4, none, (1094, 1093, 55, 185), false, 10), (yX11_reading, cX11_reading, 3, (some .int), (1102, 1100, 1101, 185), false, 10), (yX11_doubt, cX11_doubt, 5, (some .boolean), (1106, 1104, 1105, 185), false, 10), (yX11_alike, cX11_alike, 1, (some .int), (1127, 1125, 1126, 185), false, 10), (yX11_code, cX11_code, 4, (some .int), (1135, 1133, 1134, 185), false, 10), (yX11_codeAt, cX11_codeAt, 2, (some .long), (1162, 1160, 1161, 185), false, 10), (yX11_parts, cX11_parts, 5, (some .int), (1171, 1169, 1170, 185), false, 10), (yX11_clearBeats, cX11_clearBeats, 4, (some .int), (1176, 1174, 1175, 185), false, 10), (yX11_clearEcho, cX11_clearEcho, 2, (some .int), (1180, 1178, 1179, 185), false, 10), (yX11_silent, cX11_silent, 4, (some .int), (1184, 1182, 1183, 185), false, 10), (yX11_least, cX11_least, 1, (some .int), (1194, 1192, 1193, 185), false, 10), (yX11_plan, cX11_plan, 1, (some .int), (1236, 1234, 1235, 185), false, 10), (yX11_planAt, cX11_planAt, 3, (some .int), (1266, 1264, 1265, 185), false, 10), (yX11_worth, cX11_worth, 3, (some .int), (1270, 1268, 1269, 185), false, 10), (yX11_quicker, cX11_quicker, 2, (some .int), (1274, 1272, 1273, 185), false, 10), (yX11_away, cX11_away, 3, (some .int), (1278, 1276, 1277, 185), false, 10), (yX11_later, cX11_later, 3, (some .int), (1293, 1291, 1292, 185), false, 10), (yX11_slack, cX11_slack, 4, (some .int), (1297, 1295, 1296, 185), false, 10), (yX11_without, cX11_without, 2, (some .int), (1305, 1303, 1304, 185), false, 10), (yX11_dearest, cX11_dearest, 2, (some .int), (1309, 1307, 1308, 185), false, 10), (yX11_opened, cX11_opened, 1, (some .int), (1320, 1318, 1319, 185), false, 10), (yX11_busiest, cX11_busiest, 2, (some .int), (1328, 1326, 1327, 185), false, 10), (yX11_leastAsTold, cX11_leastAsTold, 1, (some .int), (1198, 1197, 67, 185), false, 10), (yX11_answerWaits, cX11_answerWaits, 2, (some .int), (1231, 1230, 73, 185), false, 10), (yX11_keep, cX11_keep, 2, (some .int), (1339, 1337, 1338, 185), false, 10), (yX11_kept, cX11_kept, 2, (some .int), (1412, 1410, 1411, 185), false, 10), (yX11_odds, cX11_odds, 6, (some .boolean), (1416, 1414, 1415, 185), false, 10)]
def x_infs_4 : List x_Inf := [(yX11_waits, cX11_waits, 6, (some .int), (1425, 1423, 1424, 185), false, 10), (yX11_wrongSeeds, cX11_wrongSeeds, 3, (some .int), (1420, 1419, 101, 185), false, 10), (yX11_mark, cX11_mark, 1, (some .int), (1429, 1427, 1428, 185), false, 10), (yX11_back, cX11_back, 1, (some .int), (1433, 1431, 1432, 185), false, 10), (yX11_answer, cX11_answer, 2, (some .int), (854, 853, 33, 185), false, 10), (yX11_answerLong, cX11_answerLong, 3, (some .long), (613, 612, 9, 185), false, 10), (yX11_grant, cX11_grant, 1, (some .boolean), (581, 580, 3, 185), false, 10), (yX11_refuse, cX11_refuse, 2, (some .int), (609, 608, 8, 185), false, 10), (yX11_deny, cX11_deny, 2, (some .boolean), (573, 572, 1, 185), false, 10), (yX11_tellFraction, cX11_tellFraction, 4, none, (1120, 1119, 59, 185), false, 10), (yX11_commonDivisor, cX11_commonDivisor, 6, (some .int), (1123, 1122, 0, 185), true, 10), (yX12_init, cX12_init, 1, none, (1438, 1437, 0, 192), false, 11), (yX12_status, cX12_status, 1, (some .int), (1672, 1670, 1671, 192), false, 11), (yX12_top, cX12_top, 1, (some .long), (1676, 1674, 1675, 192), false, 11), (yX12_bottom, cX12_bottom, 1, (some .long), (1680, 1678, 1679, 192), false, 11), (yX12_is, cX12_is, 2, (some .boolean), (1691, 1690, 102, 192), false, 11), (yX12_refuse, cX12_refuse, 2, (some .int), (1751, 1750, 108, 192), false, 11), (yX12_gives, cX12_gives, 2, (some .int), (1876, 1875, 127, 192), false, 11), (yX12_orNone, cX12_orNone, 2, (some .int), (2010, 2009, 147, 192), false, 11), (yX12_givesLong, cX12_givesLong, 3, (some .long), (1960, 1959, 143, 192), false, 11), (yX12_tellsBy, cX12_tellsBy, 11, (some .boolean), (2018, 2017, 148, 192), false, 11), (yX12_isTray, cX12_isTray, 1, (some .boolean), (1687, 1686, 0, 192), true, 11), (yX12_cut, cX12_cut, 3, (some .long), (1702, 1701, 0, 192), true, 11), (yX12_tray, cX12_tray, 5, (some .boolean), (1684, 1682, 1683, 192), false, 11), (yX12_wrongPlace, cX12_wrongPlace, 3, (some .int), (1699, 1698, 103, 192), false, 11), (yX12_write, cX12_write, 6, (some .boolean), (1695, 1693, 1694, 192), false, 11), (yX12_read, cX12_read, 3, (some .long), (1706, 1704, 1705, 192), false, 11), (yX12_pour, cX12_pour, 8, (some .boolean), (1711, 1709, 1710, 192), false, 11), (yX12_isFrom, cX12_isFrom, 6, (some .boolean), (1979, 1978, 0, 192), true, 11), (yX12_feed, cX12_feed, 6, (some .int), (1715, 1713, 1714, 192), false, 11), (yX12_four, cX12_four, 3, none, (1719, 1718, 104, 192), false, 11), (yX12_byteAt, cX12_byteAt, 2, (some .int), (1739, 1738, 107, 192), false, 11), (yX12_isSmall, cX12_isSmall, 1, (some .boolean), (1742, 1741, 0, 192), true, 11), (yX12_isDigit, cX12_isDigit, 1, (some .boolean), (1745, 1744, 0, 192), true, 11), (yX12_ahead, cX12_ahead, 2, none, (1735, 1734, 106, 192), false, 11), (yX12_isSign, cX12_isSign, 2, (some .boolean), (1868, 1867, 125, 192), false, 11), (yX12_inWords, cX12_inWords, 7, (some .int), (1760, 1759, 110, 192), false, 11), (yX12_fails, cX12_fails, 2, (some .boolean), (1816, 1815, 112, 192), false, 11), (yX12_begins, cX12_begins, 4, (some .boolean), (1731, 1730, 105, 192), false, 11), (yX12_wantSign, cX12_wantSign, 2, (some .boolean), (1864, 1863, 124, 192), false, 11)]
def x_infs_5 : List x_Inf := [(yX12_wantWord, cX12_wantWord, 3, (some .boolean), (1836, 1835, 117, 192), false, 11), (yX12_number, cX12_number, 4, (some .boolean), (1852, 1851, 121, 192), false, 11), (yX12_isName, cX12_isName, 2, (some .boolean), (1824, 1823, 114, 192), false, 11), (yX12_nameHere, cX12_nameHere, 4, (some .long), (1832, 1831, 116, 192), false, 11), (yX12_findHere, cX12_findHere, 4, (some .int), (1828, 1827, 115, 192), false, 11), (yX12_fault, cX12_fault, 2, (some .int), (1723, 1721, 1722, 192), false, 11), (yX12_taken, cX12_taken, 2, (some .int), (1872, 1871, 126, 192), false, 11), (yX12_aNewName, cX12_aNewName, 2, (some .boolean), (1820, 1819, 113, 192), false, 11), (yX12_areBlasts, cX12_areBlasts, 2, (some .boolean), (1840, 1839, 118, 192), false, 11), (yX12_aPort, cX12_aPort, 6, (some .boolean), (1812, 1811, 111, 192), false, 11), (yX12_aShip, cX12_aShip, 2, (some .boolean), (1844, 1843, 119, 192), false, 11), (yX12_passes, cX12_passes, 2, (some .boolean), (1848, 1847, 120, 192), false, 11), (yX12_aCart, cX12_aCart, 2, (some .boolean), (1856, 1855, 122, 192), false, 11), (yX12_once, cX12_once, 2, (some .boolean), (1860, 1859, 123, 192), false, 11), (yX12_riverPart, cX12_riverPart, 3, (some .boolean), (1755, 1754, 109, 192), false, 11), (yX12_river, cX12_river, 4, (some .int), (1727, 1725, 1726, 192), false, 11), (yX12_asksAlso, cX12_asksAlso, 2, none, (1904, 1903, 133, 192), false, 11), (yX12_isDoing, cX12_isDoing, 2, (some .boolean), (1912, 1911, 135, 192), false, 11), (yX12_does, cX12_does, 2, none, (1896, 1895, 131, 192), false, 11), (yX12_joins, cX12_joins, 1, none, (1916, 1915, 136, 192), false, 11), (yX12_turnsRound, cX12_turnsRound, 1, none, (1908, 1907, 134, 192), false, 11), (yX12_isWithin, cX12_isWithin, 2, (some .boolean), (1920, 1919, 137, 192), false, 11), (yX12_aCase, cX12_aCase, 3, (some .boolean), (1900, 1899, 132, 192), false, 11), (yX12_aOne, cX12_aOne, 2, (some .boolean), (1892, 1891, 130, 192), false, 11), (yX12_conditions, cX12_conditions, 2, (some .boolean), (1888, 1887, 129, 192), false, 11), (yX12_aRule, cX12_aRule, 3, (some .boolean), (1884, 1883, 128, 192), false, 11), (yX12_rules, cX12_rules, 4, (some .int), (1880, 1878, 1879, 192), false, 11), (yX12_isPort, cX12_isPort, 2, (some .boolean), (1948, 1947, 140, 192), false, 11), (yX12_isShip, cX12_isShip, 2, (some .boolean), (1932, 1931, 138, 192), false, 11), (yX12_isCart, cX12_isCart, 2, (some .boolean), (1940, 1939, 139, 192), false, 11), (yX12_told, cX12_told, 2, (some .int), (1924, 1922, 1923, 192), false, 11), (yX12_ship, cX12_ship, 3, (some .int), (1928, 1926, 1927, 192), false, 11), (yX12_cart, cX12_cart, 3, (some .int), (1936, 1934, 1935, 192), false, 11), (yX12_beatsOf, cX12_beatsOf, 9, (some .long), (1956, 1955, 142, 192), false, 11), (yX12_soundOf, cX12_soundOf, 2, (some .long), (1952, 1951, 141, 192), false, 11), (yX12_echoed, cX12_echoed, 3, (some .long), (1971, 1970, 0, 192), true, 11), (yX12_heardOf, cX12_heardOf, 2, (some .long), (1968, 1967, 144, 192), false, 11), (yX12_bits, cX12_bits, 5, (some .int), (1990, 1989, 0, 192), true, 11), (yX12_sound, cX12_sound, 2, (some .long), (1944, 1942, 1943, 192), false, 11), (yX12_heard, cX12_heard, 2, (some .long), (1964, 1962, 1963, 192), false, 11)]
def x_infs_6 : List x_Inf := [(yX12_together, cX12_together, 4, (some .long), (1975, 1973, 1974, 192), false, 11), (yX12_lasts, cX12_lasts, 5, (some .int), (1983, 1981, 1982, 192), false, 11), (yX12_far, cX12_far, 3, (some .int), (1987, 1985, 1986, 192), false, 11), (yX12_reads, cX12_reads, 4, none, (2002, 2001, 146, 192), false, 11), (yX12_findsReadings, cX12_findsReadings, 7, none, (1998, 1997, 145, 192), false, 11), (yX12_readings, cX12_readings, 4, (some .int), (1994, 1992, 1993, 192), false, 11), (yX12_reading, cX12_reading, 3, (some .int), (2006, 2004, 2005, 192), false, 11), (yX12_doubt, cX12_doubt, 6, (some .boolean), (2014, 2012, 2013, 192), false, 11), (yX12_alike, cX12_alike, 1, (some .int), (2022, 2020, 2021, 192), false, 11), (yX12_parts, cX12_parts, 5, (some .int), (2030, 2028, 2029, 192), false, 11), (yX12_clearBeats, cX12_clearBeats, 4, (some .int), (2034, 2032, 2033, 192), false, 11), (yX12_alikeBy, cX12_alikeBy, 5, (some .int), (2026, 2025, 149, 192), false, 11), (yX12_clearEcho, cX12_clearEcho, 2, (some .int), (2038, 2036, 2037, 192), false, 11), (yX12_silent, cX12_silent, 4, (some .int), (2042, 2040, 2041, 192), false, 11), (yX12_laysCalls, cX12_laysCalls, 9, none, (2052, 2051, 150, 192), false, 11), (yX12_isCode, cX12_isCode, 5, (some .boolean), (2057, 2056, 151, 192), false, 11), (yX12_code, cX12_code, 7, (some .int), (2046, 2044, 2045, 192), false, 11), (yX12_codeAt, cX12_codeAt, 2, (some .long), (2061, 2059, 2060, 192), false, 11), (yX12_tellsMinutes, cX12_tellsMinutes, 2, none, (2069, 2068, 152, 192), false, 11), (yX12_orders, cX12_orders, 4, none, (2073, 2072, 153, 192), false, 11), (yX12_nextShip, cX12_nextShip, 2, (some .int), (2065, 2063, 2064, 192), false, 11), (yX12_nextCart, cX12_nextCart, 2, (some .int), (2077, 2075, 2076, 192), false, 11), (yX12_ofShip, cX12_ofShip, 3, (some .int), (2109, 2108, 159, 192), false, 11), (yX12_ofCart, cX12_ofCart, 3, (some .int), (2125, 2124, 163, 192), false, 11), (yX12_turnTime, cX12_turnTime, 3, (some .int), (2101, 2100, 157, 192), false, 11), (yX12_stateOf, cX12_stateOf, 4, (some .int), (2097, 2096, 0, 192), true, 11), (yX12_leftAt, cX12_leftAt, 5, (some .int), (2093, 2092, 156, 192), false, 11), (yX12_mayShip, cX12_mayShip, 4, (some .boolean), (2105, 2104, 158, 192), false, 11), (yX12_mayCart, cX12_mayCart, 4, (some .boolean), (2117, 2116, 161, 192), false, 11), (yX12_byShip, cX12_byShip, 5, (some .int), (2113, 2112, 160, 192), false, 11), (yX12_byCart, cX12_byCart, 5, (some .int), (2121, 2120, 162, 192), false, 11), (yX12_reckons, cX12_reckons, 6, (some .int), (2089, 2088, 155, 192), false, 11), (yX12_leastBy, cX12_leastBy, 3, (some .int), (2085, 2084, 154, 192), false, 11), (yX12_least, cX12_least, 1, (some .int), (2081, 2079, 2080, 192), false, 11), (yX12_acts, cX12_acts, 4, none, (2137, 2136, 165, 192), false, 11), (yX12_plans, cX12_plans, 6, (some .boolean), (2133, 2132, 164, 192), false, 11), (yX12_plan, cX12_plan, 2, (some .int), (2129, 2127, 2128, 192), false, 11), (yX12_planAt, cX12_planAt, 3, (some .int), (2141, 2139, 2140, 192), false, 11), (yX12_worth, cX12_worth, 3, (some .int), (2145, 2143, 2144, 192), false, 11), (yX12_quicker, cX12_quicker, 2, (some .int), (2149, 2147, 2148, 192), false, 11)]
def x_infs_7 : List x_Inf := [(yX12_away, cX12_away, 3, (some .int), (2154, 2152, 2153, 192), false, 11), (yX12_later, cX12_later, 3, (some .int), (2158, 2156, 2157, 192), false, 11), (yX12_laterBy, cX12_laterBy, 3, (some .int), (2163, 2162, 166, 192), false, 11), (yX12_slack, cX12_slack, 6, (some .int), (2167, 2165, 2166, 192), false, 11), (yX12_without, cX12_without, 3, (some .int), (2171, 2169, 2170, 192), false, 11), (yX12_cameBy, cX12_cameBy, 2, (some .int), (2179, 2178, 167, 192), false, 11), (yX12_costsBy, cX12_costsBy, 2, (some .int), (2183, 2182, 168, 192), false, 11), (yX12_dearest, cX12_dearest, 6, (some .int), (2175, 2173, 2174, 192), false, 11), (yX12_opened, cX12_opened, 4, (some .int), (2187, 2185, 2186, 192), false, 11), (yX12_busiest, cX12_busiest, 6, (some .int), (2191, 2189, 2190, 192), false, 11), (yX12_draw, cX12_draw, 1, (some .int), (2204, 2203, 170, 192), false, 11), (yX12_waitingShips, cX12_waitingShips, 3, (some .int), (2237, 2236, 178, 192), false, 11), (yX12_waitingCarts, cX12_waitingCarts, 3, (some .int), (2241, 2240, 179, 192), false, 11), (yX12_nextIn, cX12_nextIn, 2, (some .int), (2245, 2244, 180, 192), false, 11), (yX12_asked, cX12_asked, 6, (some .boolean), (2233, 2232, 177, 192), false, 11), (yX12_holds, cX12_holds, 5, (some .boolean), (2229, 2228, 176, 192), false, 11), (yX12_actNow, cX12_actNow, 2, (some .int), (2225, 2224, 175, 192), false, 11), (yX12_passesOver, cX12_passesOver, 1, none, (2213, 2212, 172, 192), false, 11), (yX12_isBusy, cX12_isBusy, 1, (some .boolean), (2221, 2220, 174, 192), false, 11), (yX12_strikes, cX12_strikes, 3, none, (2217, 2216, 173, 192), false, 11), (yX12_minuteGoes, cX12_minuteGoes, 2, none, (2209, 2208, 171, 192), false, 11), (yX12_leftOver, cX12_leftOver, 3, (some .int), (2249, 2248, 181, 192), false, 11), (yX12_keeps, cX12_keeps, 3, none, (2200, 2199, 169, 192), false, 11), (yX12_keep, cX12_keep, 2, (some .int), (2195, 2193, 2194, 192), false, 11), (yX12_kept, cX12_kept, 2, (some .int), (2253, 2251, 2252, 192), false, 11), (yX12_areSeeds, cX12_areSeeds, 3, (some .boolean), (2261, 2260, 182, 192), false, 11), (yX12_odds, cX12_odds, 5, (some .boolean), (2257, 2255, 2256, 192), false, 11), (yX12_waits, cX12_waits, 5, (some .int), (2265, 2263, 2264, 192), false, 11), (yX12_copies, cX12_copies, 4, none, (2273, 2272, 183, 192), false, 11), (yX12_mark, cX12_mark, 1, (some .int), (2269, 2267, 2268, 192), false, 11), (yX12_back, cX12_back, 1, (some .int), (2277, 2275, 2276, 192), false, 11), (yJ6_numberOfLeadingZeros_0f7a4, cJ6_numberOfLeadingZeros_0f7a4, 2, (some .int), (1075, 1074, 0, 206), true, 99), (yJ6_numberOfTrailingZeros_0f7a4, cJ6_numberOfTrailingZeros_0f7a4, 2, (some .int), (1190, 1189, 0, 206), true, 99), (yJ6_bitCount_0f7a4, cJ6_bitCount_0f7a4, 1, (some .int), (1281, 1280, 0, 206), true, 99), (yJ13_numberOfLeadingZeros_95d88, cJ13_numberOfLeadingZeros_95d88, 3, (some .int), (1072, 1071, 0, 205), true, 99), (yJ13_numberOfTrailingZeros_95d88, cJ13_numberOfTrailingZeros_95d88, 3, (some .int), (1187, 1186, 0, 205), true, 99), (yJ13_bitCount_95d88, cJ13_bitCount_95d88, 2, (some .int), (1083, 1082, 0, 205), true, 99), (yJ0_length_8abf5, cJ0_length_8abf5, 1, (some .int), (1764, 1762, 1763, 199), false, 100), (yJ0_charAt_5068e, cJ0_charAt_5068e, 2, (some .char), (1774, 1772, 1773, 199), false, 100), (yJ0_coder_7d493, cJ0_coder_7d493, 1, (some .byte), (1768, 1766, 1767, 199), false, 100)]
def x_infs_8 : List x_Inf := [(yJ0_isLatin1_aae02, cJ0_isLatin1_aae02, 1, (some .boolean), (1778, 1776, 1777, 199), false, 100), (yJ0_checkIndex_df160, cJ0_checkIndex_df160, 2, none, (1784, 1783, 0, 199), true, 100), (yJ1_charAt_3b067, cJ1_charAt_3b067, 2, (some .char), (1781, 1780, 0, 200), true, 99), (yJ2_getChar_3b067, cJ2_getChar_3b067, 2, (some .char), (1802, 1801, 0, 202), true, 99), (yJ2_length_9d52b, cJ2_length_9d52b, 1, (some .int), (1798, 1797, 0, 202), true, 99), (yJ2_charAt_3b067, cJ2_charAt_3b067, 2, (some .char), (1792, 1791, 0, 202), true, 99), (yJ2_checkIndex_2214a, cJ2_checkIndex_2214a, 2, none, (1795, 1794, 0, 202), true, 99), (yJ3_checkIndex_8e157, cJ3_checkIndex_8e157, 3, (some .int), (1789, 1788, 0, 201), true, 99), (yL_law, code, 4, some .boolean, (0, 0, 0, 0), true, 99)]
def x_infs : List x_Inf := x_infs_0 ++ (x_infs_1 ++ (x_infs_2 ++ (x_infs_3 ++ (x_infs_4 ++ (x_infs_5 ++ (x_infs_6 ++ (x_infs_7 ++ (x_infs_8))))))))
/-- classes: places of instantiable and initialized -/
def x_cpl : List (Nat × Nat) := [(331, 188), (364, 189), (415, 190), (224, 187), (218, 186), (634, 194), (861, 204), (860, 203), (636, 195), (478, 191), (208, 185), (1435, 192)]
/-- arrays: the places of arrayClass, arrayOver, by the elements' type -/
def x_apl : List Nat := [269, 268, 267, 270, 216, 327, 329]
/-- statics: class, name, descriptor, what they hold, the places of laysStatic and initialized -/
def x_sts : List (String × String × String × Value × Nat × Nat) := [("HornBridge$Keyword", "PORT", "LHornBridge$Keyword;", .retAddr 0, 746, 198), ("HornBridge$Keyword", "TURNS", "LHornBridge$Keyword;", .retAddr 2, 782, 198), ("HornBridge$Keyword", "FROST", "LHornBridge$Keyword;", .retAddr 3, 792, 198), ("HornBridge$Keyword", "ECHO", "LHornBridge$Keyword;", .retAddr 5, 800, 198), ("HornBridge$Keyword", "SHIP", "LHornBridge$Keyword;", .retAddr 6, 806, 198), ("HornBridge$Keyword", "CART", "LHornBridge$Keyword;", .retAddr 12, 834, 198), ("HornBridge$Keyword", "CALLS", "LHornBridge$Keyword;", .retAddr 1, 765, 198), ("HornBridge$Keyword", "FROM", "LHornBridge$Keyword;", .retAddr 4, 798, 198), ("HornBridge$Keyword", "OF", "LHornBridge$Keyword;", .retAddr 7, 812, 198), ("HornBridge$Keyword", "SAIL", "LHornBridge$Keyword;", .retAddr 11, 832, 198), ("HornBridge$Keyword", "AT", "LHornBridge$Keyword;", .retAddr 8, 822, 198), ("HornBridge$Keyword", "TAKES", "LHornBridge$Keyword;", .retAddr 9, 824, 198), ("HornBridge$Keyword", "COSTS", "LHornBridge$Keyword;", .retAddr 10, 826, 198), ("HornBridge$Keyword", "IF", "LHornBridge$Keyword;", .retAddr 13, 918, 198), ("HornBridge$Keyword", "DO", "LHornBridge$Keyword;", .retAddr 14, 978, 198), ("HornBridge$Keyword", "OPEN", "LHornBridge$Keyword;", .retAddr 15, 941, 198), ("HornBridge$Keyword", "SHUT", "LHornBridge$Keyword;", .retAddr 16, 943, 198), ("HornBridge$Keyword", "REST", "LHornBridge$Keyword;", .retAddr 17, 984, 198), ("HornBridge$Keyword", "OR", "LHornBridge$Keyword;", .retAddr 18, 976, 198), ("HornBridge$Keyword", "AND", "LHornBridge$Keyword;", .retAddr 19, 974, 198), ("HornBridge$Keyword", "NOT", "LHornBridge$Keyword;", .retAddr 20, 934, 198), ("HornBridge$Keyword", "SHIPS", "LHornBridge$Keyword;", .retAddr 22, 945, 198), ("HornBridge$Keyword", "CARTS", "LHornBridge$Keyword;", .retAddr 23, 947, 198), ("HornBridge$Keyword", "NEXT", "LHornBridge$Keyword;", .retAddr 24, 949, 198), ("HornBridge$Keyword", "MINUTE", "LHornBridge$Keyword;", .retAddr 25, 951, 198), ("HornBridge$Keyword", "TURNED", "LHornBridge$Keyword;", .retAddr 26, 953, 198), ("HornBridge$Tokens", "KEYWORDS", "[LHornBridge$Keyword;", .retAddr 27, 654, 195), ("java/lang/String", "COMPACT_STRINGS", "Z", .int 1, 1770, 199), ("jdk/internal/util/Preconditions", "SIOOBE_FORMATTER", "Ljava/util/function/BiFunction;", .retAddr 41, 1786, 201), ("java/lang/StringUTF16", "$assertionsDisabled", "Z", .int 1, 1804, 202), ("java/lang/StringUTF16", "HI_BYTE_SHIFT", "I", .int 0, 1806, 202), ("java/lang/StringUTF16", "LO_BYTE_SHIFT", "I", .int 8, 1808, 202)]
def x_kwn : List String := ["PORT", "CALLS", "TURNS", "FROST", "FROM", "ECHO", "SHIP", "OF", "AT", "TAKES", "COSTS", "SAIL", "CART", "IF", "DO", "OPEN", "SHUT", "REST", "OR", "AND", "NOT", "WAITING", "SHIPS", "CARTS", "NEXT", "MINUTE", "TURNED"]
def x_kwl : List Int64 := [540244, 3191187, 21678547, 6897268, 215533, 167183, 631088, 486, 52, 21015731, 3657363, 623916, 99924, 294, 143, 508078, 631476, 595572, 498, 1476, 14836, 24739718599, 20194835, 3197587, 464660, 446125701, 693713060]
def x_keys : List Int32 := [32, 112, 111, 114, 116, 32, 116, 117, 114, 110, 115, 32, 102, 114, 111, 115, 116, 32, 101, 99, 104, 111, 32, 115, 104, 105, 112, 32, 99, 97, 114, 116, 32, 99, 97, 108, 108, 115, 32, 102, 114, 111, 109, 32, 111, 102, 32, 97, 116, 32, 116, 97, 107, 101, 115, 32, 99, 111, 115, 116, 115, 32, 115, 97, 105, 108, 32, 105, 102, 32, 100, 111, 32, 111, 112, 101, 110, 32, 115, 104, 117, 116, 32, 114, 101, 115, 116, 32, 111, 114, 32, 97, 110, 100, 32, 110, 111, 116, 32, 119, 97, 105, 116, 105, 110, 103, 32, 115, 104, 105, 112, 115, 32, 99, 97, 114, 116, 115, 32, 110, 101, 120, 116, 32, 109, 105, 110, 117, 116, 101, 32, 116, 117, 114, 110, 101, 100, 32]
def x_keytx : String := " port turns frost echo ship cart calls from of at takes costs sail if do open shut rest or and not waiting ships carts next minute turned "
def x_keyix : Nat := 223
def x_keyplace : Nat := 1756
/-- places of the words of Object.<init> and of arraycopy: instanceMethod, code; native, static, initialized -/
def x_objpl : Nat × Nat := (213, 214)
def x_cpypl : Nat × Nat × Nat := (620, 619, 193)
def x_mmaxpl : Nat × Nat × Nat := (867, 196, 868)
def x_mminpl : Nat × Nat × Nat := (642, 196, 643)
abbrev n_X0_init : Nat := 0
abbrev n_X0_lettersOf : Nat := 1
abbrev n_X0_find : Nat := 2
abbrev n_X0_extend : Nat := 3
abbrev n_X0_fitsLast : Nat := 4
abbrev n_X0_heardInRow : Nat := 5
abbrev n_X0_callTold : Nat := 6
abbrev n_X0_blastsTold : Nat := 7
abbrev n_X1_init : Nat := 8
abbrev n_X1_takeAll : Nat := 9
abbrev n_X1_takeShips : Nat := 10
abbrev n_X1_takeCarts : Nat := 11
abbrev n_X1_turnEnd : Nat := 12
abbrev n_X1_leastWaits : Nat := 13
abbrev n_X1_canPassWithin : Nat := 14
abbrev n_X1_allCanPass : Nat := 15
abbrev n_X1_canEndWithin : Nat := 16
abbrev n_X1_search : Nat := 17
abbrev n_X1_canBegin : Nat := 18
abbrev n_X1_waitsOf : Nat := 19
abbrev n_X1_layPlan : Nat := 20
abbrev n_X1_shipMayBegin : Nat := 21
abbrev n_X1_cartMayBegin : Nat := 22
abbrev n_X1_addAct : Nat := 23
abbrev n_X1_tellPlan : Nat := 24
abbrev n_X1_dearestByPlan : Nat := 25
abbrev n_X1_waitsByNumber : Nat := 26
abbrev n_X1_openedByPlan : Nat := 27
abbrev n_X1_busiestByPlan : Nat := 28
abbrev n_X1_waitingIn : Nat := 29
abbrev n_X2_init : Nat := 30
abbrev n_X2_spendDay : Nat := 31
abbrev n_X2_comeLater : Nat := 32
abbrev n_X2_delay : Nat := 33
abbrev n_X2_endWhatIsOver : Nat := 34
abbrev n_X2_strikeSails : Nat := 35
abbrev n_X2_strikeIfDue : Nat := 36
abbrev n_X2_firstShipLeft : Nat := 37
abbrev n_X2_obey : Nat := 38
abbrev n_X2_gatherFacts : Nat := 39
abbrev n_X2_beginNext : Nat := 40
abbrev n_X2_begin : Nat := 41
abbrev n_X2_left : Nat := 42
abbrev n_X2_tellDay : Nat := 43
abbrev n_X4_init : Nat := 44
abbrev n_X4_clear : Nat := 45
abbrev n_X4_join : Nat := 46
abbrev n_X4_put : Nat := 47
abbrev n_X5_init : Nat := 48
abbrev n_X5_turnLength : Nat := 49
abbrev n_X5_soundOf : Nat := 50
abbrev n_X5_withEcho : Nat := 51
abbrev n_X5_heardOf : Nat := 52
abbrev n_X5_bothHeard : Nat := 53
abbrev n_X5_leastBeats : Nat := 54
abbrev n_X5_countReadings : Nat := 55
abbrev n_X5_countBeats : Nat := 56
abbrev n_X5_couplesAlike : Nat := 57
abbrev n_X6_init : Nat := 58
abbrev n_X6_readAll : Nat := 59
abbrev n_X6_readPort : Nat := 60
abbrev n_X6_readTurns : Nat := 61
abbrev n_X6_readFrost : Nat := 62
abbrev n_X6_readEcho : Nat := 63
abbrev n_X6_readShip : Nat := 64
abbrev n_X6_readCart : Nat := 65
abbrev n_X6_readComing : Nat := 66
abbrev n_X6_takeNewName : Nat := 67
abbrev n_X6_portNamed : Nat := 68
abbrev n_X7_init : Nat := 69
abbrev n_X7_addStep : Nat := 70
abbrev n_X7_endRule : Nat := 71
abbrev n_X7_actBy : Nat := 72
abbrev n_X7_holds : Nat := 73
abbrev n_X7_compares : Nat := 74
abbrev n_X8_init : Nat := 75
abbrev n_X8_readAll : Nat := 76
abbrev n_X8_readRule : Nat := 77
abbrev n_X8_actTold : Nat := 78
abbrev n_X8_readEither : Nat := 79
abbrev n_X8_readBoth : Nat := 80
abbrev n_X8_readOne : Nat := 81
abbrev n_X8_readNested : Nat := 82
abbrev n_X8_factTold : Nat := 83
abbrev n_X8_readCase : Nat := 84
abbrev n_X8_comparesTold : Nat := 85
abbrev n_X9_init : Nat := 86
abbrev n_X9_step : Nat := 87
abbrev n_X9_stepWord : Nat := 88
abbrev n_X9_stepNumber : Nat := 89
abbrev n_X9_isSign : Nat := 90
abbrev n_X9_refuseToken : Nat := 91
abbrev n_X9_isName : Nat := 92
abbrev n_X9_isBlasts : Nat := 93
abbrev n_X9_isSignOf : Nat := 94
abbrev n_X9_takeKeyword : Nat := 95
abbrev n_X9_takeSign : Nat := 96
abbrev n_X9_takeNumber : Nat := 97
abbrev n_X10_init : Nat := 98
abbrev n_X10_lay : Nat := 99
abbrev n_X10_isMissing : Nat := 100
abbrev n_X10_hasStretch : Nat := 101
abbrev n_X10_put : Nat := 102
abbrev n_X11_init : Nat := 103
abbrev n_X11_status : Nat := 104
abbrev n_X11_top : Nat := 105
abbrev n_X11_bottom : Nat := 106
abbrev n_X11_tray : Nat := 107
abbrev n_X11_write : Nat := 108
abbrev n_X11_read : Nat := 109
abbrev n_X11_pour : Nat := 110
abbrev n_X11_isTray : Nat := 111
abbrev n_X11_wrongPlace : Nat := 112
abbrev n_X11_feed : Nat := 113
abbrev n_X11_feedOne : Nat := 114
abbrev n_X11_river : Nat := 115
abbrev n_X11_rules : Nat := 116
abbrev n_X11_endText : Nat := 117
abbrev n_X11_fault : Nat := 118
abbrev n_X11_told : Nat := 119
abbrev n_X11_ship : Nat := 120
abbrev n_X11_cart : Nat := 121
abbrev n_X11_nextShip : Nat := 122
abbrev n_X11_nextCart : Nat := 123
abbrev n_X11_isPort : Nat := 124
abbrev n_X11_isShip : Nat := 125
abbrev n_X11_isCart : Nat := 126
abbrev n_X11_sound : Nat := 127
abbrev n_X11_heard : Nat := 128
abbrev n_X11_together : Nat := 129
abbrev n_X11_lasts : Nat := 130
abbrev n_X11_far : Nat := 131
abbrev n_X11_readings : Nat := 132
abbrev n_X11_addReading : Nat := 133
abbrev n_X11_reading : Nat := 134
abbrev n_X11_doubt : Nat := 135
abbrev n_X11_alike : Nat := 136
abbrev n_X11_code : Nat := 137
abbrev n_X11_codeAt : Nat := 138
abbrev n_X11_parts : Nat := 139
abbrev n_X11_clearBeats : Nat := 140
abbrev n_X11_clearEcho : Nat := 141
abbrev n_X11_silent : Nat := 142
abbrev n_X11_least : Nat := 143
abbrev n_X11_plan : Nat := 144
abbrev n_X11_planAt : Nat := 145
abbrev n_X11_worth : Nat := 146
abbrev n_X11_quicker : Nat := 147
abbrev n_X11_away : Nat := 148
abbrev n_X11_later : Nat := 149
abbrev n_X11_slack : Nat := 150
abbrev n_X11_without : Nat := 151
abbrev n_X11_dearest : Nat := 152
abbrev n_X11_opened : Nat := 153
abbrev n_X11_busiest : Nat := 154
abbrev n_X11_leastAsTold : Nat := 155
abbrev n_X11_answerWaits : Nat := 156
abbrev n_X11_keep : Nat := 157
abbrev n_X11_kept : Nat := 158
abbrev n_X11_odds : Nat := 159
abbrev n_X11_waits : Nat := 160
abbrev n_X11_wrongSeeds : Nat := 161
abbrev n_X11_mark : Nat := 162
abbrev n_X11_back : Nat := 163
abbrev n_X11_answer : Nat := 164
abbrev n_X11_answerLong : Nat := 165
abbrev n_X11_grant : Nat := 166
abbrev n_X11_refuse : Nat := 167
abbrev n_X11_deny : Nat := 168
abbrev n_X11_tellFraction : Nat := 169
abbrev n_X11_commonDivisor : Nat := 170
abbrev n_X12_init : Nat := 171
abbrev n_X12_status : Nat := 172
abbrev n_X12_top : Nat := 173
abbrev n_X12_bottom : Nat := 174
abbrev n_X12_is : Nat := 175
abbrev n_X12_refuse : Nat := 176
abbrev n_X12_gives : Nat := 177
abbrev n_X12_orNone : Nat := 178
abbrev n_X12_givesLong : Nat := 179
abbrev n_X12_tellsBy : Nat := 180
abbrev n_X12_isTray : Nat := 181
abbrev n_X12_cut : Nat := 182
abbrev n_X12_tray : Nat := 183
abbrev n_X12_wrongPlace : Nat := 184
abbrev n_X12_write : Nat := 185
abbrev n_X12_read : Nat := 186
abbrev n_X12_pour : Nat := 187
abbrev n_X12_isFrom : Nat := 188
abbrev n_X12_feed : Nat := 189
abbrev n_X12_four : Nat := 190
abbrev n_X12_byteAt : Nat := 191
abbrev n_X12_isSmall : Nat := 192
abbrev n_X12_isDigit : Nat := 193
abbrev n_X12_ahead : Nat := 194
abbrev n_X12_isSign : Nat := 195
abbrev n_X12_inWords : Nat := 196
abbrev n_X12_fails : Nat := 197
abbrev n_X12_begins : Nat := 198
abbrev n_X12_wantSign : Nat := 199
abbrev n_X12_wantWord : Nat := 200
abbrev n_X12_number : Nat := 201
abbrev n_X12_isName : Nat := 202
abbrev n_X12_nameHere : Nat := 203
abbrev n_X12_findHere : Nat := 204
abbrev n_X12_fault : Nat := 205
abbrev n_X12_taken : Nat := 206
abbrev n_X12_aNewName : Nat := 207
abbrev n_X12_areBlasts : Nat := 208
abbrev n_X12_aPort : Nat := 209
abbrev n_X12_aShip : Nat := 210
abbrev n_X12_passes : Nat := 211
abbrev n_X12_aCart : Nat := 212
abbrev n_X12_once : Nat := 213
abbrev n_X12_riverPart : Nat := 214
abbrev n_X12_river : Nat := 215
abbrev n_X12_asksAlso : Nat := 216
abbrev n_X12_isDoing : Nat := 217
abbrev n_X12_does : Nat := 218
abbrev n_X12_joins : Nat := 219
abbrev n_X12_turnsRound : Nat := 220
abbrev n_X12_isWithin : Nat := 221
abbrev n_X12_aCase : Nat := 222
abbrev n_X12_aOne : Nat := 223
abbrev n_X12_conditions : Nat := 224
abbrev n_X12_aRule : Nat := 225
abbrev n_X12_rules : Nat := 226
abbrev n_X12_isPort : Nat := 227
abbrev n_X12_isShip : Nat := 228
abbrev n_X12_isCart : Nat := 229
abbrev n_X12_told : Nat := 230
abbrev n_X12_ship : Nat := 231
abbrev n_X12_cart : Nat := 232
abbrev n_X12_beatsOf : Nat := 233
abbrev n_X12_soundOf : Nat := 234
abbrev n_X12_echoed : Nat := 235
abbrev n_X12_heardOf : Nat := 236
abbrev n_X12_bits : Nat := 237
abbrev n_X12_sound : Nat := 238
abbrev n_X12_heard : Nat := 239
abbrev n_X12_together : Nat := 240
abbrev n_X12_lasts : Nat := 241
abbrev n_X12_far : Nat := 242
abbrev n_X12_reads : Nat := 243
abbrev n_X12_findsReadings : Nat := 244
abbrev n_X12_readings : Nat := 245
abbrev n_X12_reading : Nat := 246
abbrev n_X12_doubt : Nat := 247
abbrev n_X12_alike : Nat := 248
abbrev n_X12_parts : Nat := 249
abbrev n_X12_clearBeats : Nat := 250
abbrev n_X12_alikeBy : Nat := 251
abbrev n_X12_clearEcho : Nat := 252
abbrev n_X12_silent : Nat := 253
abbrev n_X12_laysCalls : Nat := 254
abbrev n_X12_isCode : Nat := 255
abbrev n_X12_code : Nat := 256
abbrev n_X12_codeAt : Nat := 257
abbrev n_X12_tellsMinutes : Nat := 258
abbrev n_X12_orders : Nat := 259
abbrev n_X12_nextShip : Nat := 260
abbrev n_X12_nextCart : Nat := 261
abbrev n_X12_ofShip : Nat := 262
abbrev n_X12_ofCart : Nat := 263
abbrev n_X12_turnTime : Nat := 264
abbrev n_X12_stateOf : Nat := 265
abbrev n_X12_leftAt : Nat := 266
abbrev n_X12_mayShip : Nat := 267
abbrev n_X12_mayCart : Nat := 268
abbrev n_X12_byShip : Nat := 269
abbrev n_X12_byCart : Nat := 270
abbrev n_X12_reckons : Nat := 271
abbrev n_X12_leastBy : Nat := 272
abbrev n_X12_least : Nat := 273
abbrev n_X12_acts : Nat := 274
abbrev n_X12_plans : Nat := 275
abbrev n_X12_plan : Nat := 276
abbrev n_X12_planAt : Nat := 277
abbrev n_X12_worth : Nat := 278
abbrev n_X12_quicker : Nat := 279
abbrev n_X12_away : Nat := 280
abbrev n_X12_later : Nat := 281
abbrev n_X12_laterBy : Nat := 282
abbrev n_X12_slack : Nat := 283
abbrev n_X12_without : Nat := 284
abbrev n_X12_cameBy : Nat := 285
abbrev n_X12_costsBy : Nat := 286
abbrev n_X12_dearest : Nat := 287
abbrev n_X12_opened : Nat := 288
abbrev n_X12_busiest : Nat := 289
abbrev n_X12_draw : Nat := 290
abbrev n_X12_waitingShips : Nat := 291
abbrev n_X12_waitingCarts : Nat := 292
abbrev n_X12_nextIn : Nat := 293
abbrev n_X12_asked : Nat := 294
abbrev n_X12_holds : Nat := 295
abbrev n_X12_actNow : Nat := 296
abbrev n_X12_passesOver : Nat := 297
abbrev n_X12_isBusy : Nat := 298
abbrev n_X12_strikes : Nat := 299
abbrev n_X12_minuteGoes : Nat := 300
abbrev n_X12_leftOver : Nat := 301
abbrev n_X12_keeps : Nat := 302
abbrev n_X12_keep : Nat := 303
abbrev n_X12_kept : Nat := 304
abbrev n_X12_areSeeds : Nat := 305
abbrev n_X12_odds : Nat := 306
abbrev n_X12_waits : Nat := 307
abbrev n_X12_copies : Nat := 308
abbrev n_X12_mark : Nat := 309
abbrev n_X12_back : Nat := 310
abbrev n_J6_numberOfLeadingZeros_0f7a4 : Nat := 311
abbrev n_J6_numberOfTrailingZeros_0f7a4 : Nat := 312
abbrev n_J6_bitCount_0f7a4 : Nat := 313
abbrev n_J13_numberOfLeadingZeros_95d88 : Nat := 314
abbrev n_J13_numberOfTrailingZeros_95d88 : Nat := 315
abbrev n_J13_bitCount_95d88 : Nat := 316
abbrev n_J0_length_8abf5 : Nat := 317
abbrev n_J0_charAt_5068e : Nat := 318
abbrev n_J0_coder_7d493 : Nat := 319
abbrev n_J0_isLatin1_aae02 : Nat := 320
abbrev n_J0_checkIndex_df160 : Nat := 321
abbrev n_J1_charAt_3b067 : Nat := 322
abbrev n_J2_getChar_3b067 : Nat := 323
abbrev n_J2_length_9d52b : Nat := 324
abbrev n_J2_charAt_3b067 : Nat := 325
abbrev n_J2_checkIndex_2214a : Nat := 326
abbrev n_J3_checkIndex_8e157 : Nat := 327
abbrev n_L_law : Nat := 328
end
section
/-! ===== printed by gen.py: classes by number ===== -/
def x_gw0 : List Cond := lw_tbl.filter goodWord
theorem x_lay_0 : (decide (([348, 350, 352, 354, 356, 358, 360] : List Nat).filterMap (fun i => lw_tbl[i]?) = u_ws RX0 TX0 7) && (u_ws RX0 TX0 7).all goodWord) = true := by decide +kernel
theorem x_fp_0 : ∀ k, k < 7 → parseFieldDescriptor (TX0 k).2.2.1 = some ((x_fty 0).getD k .int) := by decide +kernel
theorem x_nf_0 : (x_fty 0).all (fun t => decide (t ≠ .float) && decide (t ≠ .double)) = true := by decide +kernel
theorem x_lay_1 : (decide (([389, 391, 393, 395, 397, 399, 401, 403, 405, 407, 409, 411] : List Nat).filterMap (fun i => lw_tbl[i]?) = u_ws RX1 TX1 12) && (u_ws RX1 TX1 12).all goodWord) = true := by decide +kernel
theorem x_fp_1 : ∀ k, k < 12 → parseFieldDescriptor (TX1 k).2.2.1 = some ((x_fty 1).getD k .int) := by decide +kernel
theorem x_nf_1 : (x_fty 1).all (fun t => decide (t ≠ .float) && decide (t ≠ .double)) = true := by decide +kernel
theorem x_lay_2 : (decide (([443, 445, 447, 449, 451, 453, 455, 457, 459, 461, 463, 465, 467, 469, 471, 473, 475] : List Nat).filterMap (fun i => lw_tbl[i]?) = u_ws RX2 TX2 17) && (u_ws RX2 TX2 17).all goodWord) = true := by decide +kernel
theorem x_fp_2 : ∀ k, k < 17 → parseFieldDescriptor (TX2 k).2.2.1 = some ((x_fty 2).getD k .int) := by decide +kernel
theorem x_nf_2 : (x_fty 2).all (fun t => decide (t ≠ .float) && decide (t ≠ .double)) = true := by decide +kernel
theorem x_lay_3 : (decide (([254, 256, 258, 260, 262, 264] : List Nat).filterMap (fun i => lw_tbl[i]?) = u_ws RX4 TX4 6) && (u_ws RX4 TX4 6).all goodWord) = true := by decide +kernel
theorem x_fp_3 : ∀ k, k < 6 → parseFieldDescriptor (TX4 k).2.2.1 = some ((x_fty 3).getD k .int) := by decide +kernel
theorem x_nf_3 : (x_fty 3).all (fun t => decide (t ≠ .float) && decide (t ≠ .double)) = true := by decide +kernel
theorem x_lay_4 : (decide (([306, 308, 310, 312, 314, 316, 318, 320, 322, 324] : List Nat).filterMap (fun i => lw_tbl[i]?) = u_ws RX5 TX5 10) && (u_ws RX5 TX5 10).all goodWord) = true := by decide +kernel
theorem x_fp_4 : ∀ k, k < 10 → parseFieldDescriptor (TX5 k).2.2.1 = some ((x_fty 4).getD k .int) := by decide +kernel
theorem x_nf_4 : (x_fty 4).all (fun t => decide (t ≠ .float) && decide (t ≠ .double)) = true := by decide +kernel
theorem x_lay_5 : (decide (([724, 726, 728, 730, 732, 734, 736, 738] : List Nat).filterMap (fun i => lw_tbl[i]?) = u_ws RX6 TX6 8) && (u_ws RX6 TX6 8).all goodWord) = true := by decide +kernel
theorem x_fp_5 : ∀ k, k < 8 → parseFieldDescriptor (TX6 k).2.2.1 = some ((x_fty 5).getD k .int) := by decide +kernel
theorem x_nf_5 : (x_fty 5).all (fun t => decide (t ≠ .float) && decide (t ≠ .double)) = true := by decide +kernel
theorem x_lay_6 : (decide (([878, 880, 882, 884, 886, 888, 890] : List Nat).filterMap (fun i => lw_tbl[i]?) = u_ws RX7 TX7 7) && (u_ws RX7 TX7 7).all goodWord) = true := by decide +kernel
theorem x_fp_6 : ∀ k, k < 7 → parseFieldDescriptor (TX7 k).2.2.1 = some ((x_fty 6).getD k .int) := by decide +kernel
theorem x_nf_6 : (x_fty 6).all (fun t => decide (t ≠ .float) && decide (t ≠ .double)) = true := by decide +kernel
theorem x_lay_7 : (decide (([902, 904, 906] : List Nat).filterMap (fun i => lw_tbl[i]?) = u_ws RX8 TX8 3) && (u_ws RX8 TX8 3).all goodWord) = true := by decide +kernel
theorem x_fp_7 : ∀ k, k < 3 → parseFieldDescriptor (TX8 k).2.2.1 = some ((x_fty 7).getD k .int) := by decide +kernel
theorem x_nf_7 : (x_fty 7).all (fun t => decide (t ≠ .float) && decide (t ≠ .double)) = true := by decide +kernel
theorem x_lay_8 : (decide (([683, 685, 687, 689, 691, 693, 695, 697, 699, 701, 703, 705] : List Nat).filterMap (fun i => lw_tbl[i]?) = u_ws RX9 TX9 12) && (u_ws RX9 TX9 12).all goodWord) = true := by decide +kernel
theorem x_fp_8 : ∀ k, k < 12 → parseFieldDescriptor (TX9 k).2.2.1 = some ((x_fty 8).getD k .int) := by decide +kernel
theorem x_nf_8 : (x_fty 8).all (fun t => decide (t ≠ .float) && decide (t ≠ .double)) = true := by decide +kernel
theorem x_lay_9 : (decide (([488, 490, 492] : List Nat).filterMap (fun i => lw_tbl[i]?) = u_ws RX10 TX10 3) && (u_ws RX10 TX10 3).all goodWord) = true := by decide +kernel
theorem x_fp_9 : ∀ k, k < 3 → parseFieldDescriptor (TX10 k).2.2.1 = some ((x_fty 9).getD k .int) := by decide +kernel
theorem x_nf_9 : (x_fty 9).all (fun t => decide (t ≠ .float) && decide (t ≠ .double)) = true := by decide +kernel
theorem x_lay_10 : (decide (([513, 515, 517, 519, 521, 523, 525, 527, 529, 531, 533, 535, 537, 539, 541, 543, 545, 547] : List Nat).filterMap (fun i => lw_tbl[i]?) = u_ws RX11 TX11 18) && (u_ws RX11 TX11 18).all goodWord) = true := by decide +kernel
theorem x_fp_10 : ∀ k, k < 18 → parseFieldDescriptor (TX11 k).2.2.1 = some ((x_fty 10).getD k .int) := by decide +kernel
theorem x_nf_10 : (x_fty 10).all (fun t => decide (t ≠ .float) && decide (t ≠ .double)) = true := by decide +kernel
theorem x_lay_11 : (decide (([1516, 1518, 1520, 1522, 1524, 1526, 1528, 1530, 1532, 1534, 1536, 1538, 1540, 1542, 1544, 1546, 1548, 1550, 1552, 1554, 1556, 1558, 1560, 1562, 1564, 1566, 1568, 1570, 1572, 1574, 1576, 1578, 1580, 1582, 1584, 1586, 1588, 1590, 1592, 1594, 1596, 1598, 1600, 1602, 1604, 1606, 1608, 1610, 1612, 1614, 1616, 1618, 1620, 1622, 1624, 1626, 1628, 1630, 1632, 1634, 1636, 1638, 1640, 1642, 1644, 1646, 1648, 1650, 1652, 1654, 1656, 1658, 1660, 1662, 1664, 1666] : List Nat).filterMap (fun i => lw_tbl[i]?) = u_ws RX12 TX12 76) && (u_ws RX12 TX12 76).all goodWord) = true := by decide +kernel
theorem x_fp_11 : ∀ k, k < 76 → parseFieldDescriptor (TX12 k).2.2.1 = some ((x_fty 11).getD k .int) := by decide +kernel
theorem x_nf_11 : (x_fty 11).all (fun t => decide (t ≠ .float) && decide (t ≠ .double)) = true := by decide +kernel
theorem x_lay_of {l : List Nat} {ws : List Cond} (h : (decide (l.filterMap (fun i => lw_tbl[i]?) = ws) && ws.all goodWord) = true) : ∀ w ∈ ws, w ∈ x_gw0 := by
  rw [Bool.and_eq_true, decide_eq_true_eq] at h
  intro w hw
  refine List.mem_filter.mpr ⟨?_, List.all_eq_true.mp h.2 w hw⟩
  rw [← h.1] at hw
  obtain ⟨i, -, hi⟩ := List.mem_filterMap.mp hw
  exact List.mem_of_getElem? hi
def x_CI0 (ci : Nat) (C : String) (T : u_T) (N : Nat) : Prop := vwCl[ci]? = some (C, T, N) ∧ (x_fty ci).length = N ∧ (∀ k, k < N → parseFieldDescriptor (T k).2.2.1 = some ((x_fty ci).getD k .int)) ∧ (∀ a, a < N → ∀ b, b < N → a ≠ b → (T a).2.1 ≠ (T b).2.1) ∧ ∀ w ∈ u_ws C T N, w ∈ x_gw0
theorem x_ci0 (a : Nat) (C : String) (T : u_T) (N : Nat) (h : vwCl[a]? = some (C, T, N)) : x_CI0 a C T N ∧ ((x_fty a).all (fun t => decide (t ≠ .float) && decide (t ≠ .double)) = true) ∧ a < 12 := by
  match a, h with
  | 0, h => cases h; exact ⟨⟨rfl, rfl, x_fp_0, nmX0, x_lay_of x_lay_0⟩, x_nf_0, by omega⟩
  | 1, h => cases h; exact ⟨⟨rfl, rfl, x_fp_1, nmX1, x_lay_of x_lay_1⟩, x_nf_1, by omega⟩
  | 2, h => cases h; exact ⟨⟨rfl, rfl, x_fp_2, nmX2, x_lay_of x_lay_2⟩, x_nf_2, by omega⟩
  | 3, h => cases h; exact ⟨⟨rfl, rfl, x_fp_3, nmX4, x_lay_of x_lay_3⟩, x_nf_3, by omega⟩
  | 4, h => cases h; exact ⟨⟨rfl, rfl, x_fp_4, nmX5, x_lay_of x_lay_4⟩, x_nf_4, by omega⟩
  | 5, h => cases h; exact ⟨⟨rfl, rfl, x_fp_5, nmX6, x_lay_of x_lay_5⟩, x_nf_5, by omega⟩
  | 6, h => cases h; exact ⟨⟨rfl, rfl, x_fp_6, nmX7, x_lay_of x_lay_6⟩, x_nf_6, by omega⟩
  | 7, h => cases h; exact ⟨⟨rfl, rfl, x_fp_7, nmX8, x_lay_of x_lay_7⟩, x_nf_7, by omega⟩
  | 8, h => cases h; exact ⟨⟨rfl, rfl, x_fp_8, nmX9, x_lay_of x_lay_8⟩, x_nf_8, by omega⟩
  | 9, h => cases h; exact ⟨⟨rfl, rfl, x_fp_9, nmX10, x_lay_of x_lay_9⟩, x_nf_9, by omega⟩
  | 10, h => cases h; exact ⟨⟨rfl, rfl, x_fp_10, nmX11, x_lay_of x_lay_10⟩, x_nf_10, by omega⟩
  | 11, h => cases h; exact ⟨⟨rfl, rfl, x_fp_11, nmX12, x_lay_of x_lay_11⟩, x_nf_11, by omega⟩
  | a + 12, h => exact absurd h (by simp [vwCl])
end
section
/-! ===== the shadow machine: values, worlds, pure instructions ===== -/
abbrev x_Lo : Type := List (Nat × Value)
/-- a world: the cells' shapes (an object of a class, or an array of a type and a length), the ints, the longs, the references that they hold -/
abbrev x_G : Type := List (Nat ⊕ (Nat × Nat)) × (Nat → Nat → Int32) × (Nat → Nat → Int64) × (Nat → Nat → Value)
/-- a shadow value: a reference is a place of the world; 'retAddr i' is the i-th thing that stands outside of it -/
def x_cv (bs : Nat) (xa : Nat → Option Nat) : Value → Value
  | .ref k => .ref (bs + k)
  | .retAddr i => va_rf (xa i)
  | v => v
theorem x_cv_cat (bs : Nat) (xa : Nat → Option Nat) (v : Value) : (x_cv bs xa v).category = v.category := by
  cases v <;> try rfl
  rename_i i
  show (va_rf (xa i)).category = 1
  cases xa i <;> rfl
def x_cl (bs : Nat) (xa : Nat → Option Nat) (lo : x_Lo) : x_Lo := lo.map (fun q => (q.1, x_cv bs xa q.2))
/-- instructions of the stack alone -/
def x_alu : Instr → List Value → Option (List Value)
  | .aconst_null, st => some (.null :: st)
  | .iconst n, st => some (.int (Int32.ofInt n) :: st)
  | .bipush n, st => some (.int (Int8.ofInt n).toInt32 :: st)
  | .sipush n, st => some (.int (Int16.ofInt n).toInt32 :: st)
  | .lconst n, st => some (.long (Int64.ofNat (n : Nat)) :: st)
  | .iadd, .int y :: .int x :: r => some (.int (x + y) :: r)
  | .isub, .int y :: .int x :: r => some (.int (x - y) :: r)
  | .imul, .int y :: .int x :: r => some (.int (x * y) :: r)
  | .iand, .int y :: .int x :: r => some (.int (x &&& y) :: r)
  | .ior, .int y :: .int x :: r => some (.int (x ||| y) :: r)
  | .ixor, .int y :: .int x :: r => some (.int (x ^^^ y) :: r)
  | .idiv, .int y :: .int x :: r => if y = 0 then none else some (.int (x / y) :: r)
  | .irem, .int y :: .int x :: r => if y = 0 then none else some (.int (x - x / y * y) :: r)
  | .ishl, .int y :: .int x :: r => some (.int (x <<< (y &&& 31)) :: r)
  | .ishr, .int y :: .int x :: r => some (.int (x >>> (y &&& 31)) :: r)
  | .iushr, .int y :: .int x :: r => some (.int (x.toUInt32 >>> (y.toUInt32 &&& Int32.toUInt32 31)).toInt32 :: r)
  | .ladd, .long y :: .long x :: r => some (.long (x + y) :: r)
  | .lsub, .long y :: .long x :: r => some (.long (x - y) :: r)
  | .lmul, .long y :: .long x :: r => some (.long (x * y) :: r)
  | .land, .long y :: .long x :: r => some (.long (x &&& y) :: r)
  | .lor, .long y :: .long x :: r => some (.long (x ||| y) :: r)
  | .lxor, .long y :: .long x :: r => some (.long (x ^^^ y) :: r)
  | .ldiv, .long y :: .long x :: r => if y = 0 then none else some (.long (x / y) :: r)
  | .lrem, .long y :: .long x :: r => if y = 0 then none else some (.long (x - x / y * y) :: r)
  | .lshl, .int y :: .long x :: r => some (.long (x <<< (y.toInt64 &&& 63)) :: r)
  | .lshr, .int y :: .long x :: r => some (.long (x >>> (y.toInt64 &&& 63)) :: r)
  | .lushr, .int y :: .long x :: r => some (.long (x.toUInt64 >>> (y.toInt64.toUInt64 &&& Int64.toUInt64 63)).toInt64 :: r)
  | .lcmp, .long y :: .long x :: r => some (.int (lg_cmp x y) :: r)
  | .i2l, .int x :: r => some (.long x.toInt64 :: r)
  | .l2i, .long x :: r => some (.int x.toInt32 :: r)
  | .i2b, .int x :: r => some (.int x.toInt8.toInt32 :: r)
  | .i2s, .int x :: r => some (.int x.toInt16.toInt32 :: r)
  | .i2c, .int x :: r => some (.int (x.toUInt32 % 65536).toInt32 :: r)
  | .dup, v :: r => if v.category = 1 then some (v :: v :: r) else none
  | .pop, v :: r => if v.category = 1 then some r else none
  | .dup_x1, v :: w :: r => if v.category = 1 ∧ w.category = 1 then some (v :: w :: v :: r) else none
  | .dup2, v :: w :: r => if v.category = 1 ∧ w.category = 1 then some (v :: w :: v :: w :: r) else none
  | _, _ => none
/-- how long such an instruction is -/
def x_len : Instr → Nat
  | .bipush _ | .iload _ | .lload _ | .aload _ | .istore _ | .lstore _ | .astore _ | .ldc _ | .newarray _ => 2
  | .sipush _ | .iinc _ _ | .ifCond _ _ | .if_icmp _ _ | .if_acmp _ _ | .ifnull _ | .ifnonnull _ | .goto _ | .ldc_w _ | .ldc2_w _ | .getfield _ | .putfield _ | .getstatic _ | .new _ | .anewarray _ | .invokevirtual _ | .invokespecial _ | .invokestatic _ => 3
  | _ => 1
section XALU
variable {p : Program} {l : Launch} {e : Env} {R : Room} {s : State} {m : MethodId} {args : Array Value} {below : List Frame} {meth : Method} {c : Code} {H : Heap} {locs : List Loc} {cells slots : Nat} {Q : State → Prop}
variable {cc : ByteArray} {pc : Nat} {ls : Array Slot} {bs : Nat} {xa : Nat → Option Nat}
set_option maxHeartbeats 4000000 in
theorem x_alu_ok (hx : p.tables.exec = Jvm.exec) (hb : c.code = cc) {ins : Instr} {st st' : List Value} (hdg : decode cc pc = .ok (ins, x_len ins)) (h : x_alu ins st = some st')
    (k : W p l e R s m args below meth c H locs cells slots Q (F0 m (pc + x_len ins) ls (st'.map (x_cv bs xa)))) : W p l e R s m args below meth c H locs cells slots Q (F0 m pc ls (st.map (x_cv bs xa))) := by
  unfold x_alu at h
  split at h
  case _ => cases h; exact lv_null hx hb hdg k
  case _ => cases h; exact lv_iconst hx hb hdg rfl k
  case _ => cases h; exact lv_bipush hx hb hdg rfl k
  case _ => cases h; exact lv_sipush hx hb hdg rfl k
  case _ => cases h; exact lv_lconst hx hb hdg rfl k
  case _ => cases h; exact lv_iadd hx hb hdg k
  case _ => cases h; exact lv_isub hx hb hdg k
  case _ => cases h; exact lv_imul hx hb hdg k
  case _ => cases h; exact lv_iand hx hb hdg k
  case _ => cases h; exact lv_ior hx hb hdg k
  case _ => cases h; exact lv_ixor hx hb hdg k
  case _ => split at h; · cases h
            next hne => cases h; exact lv_idiv hx hb hdg hne k
  case _ => split at h; · cases h
            next hne => cases h; exact lv_irem hx hb hdg hne k
  case _ => cases h; exact lv_ishl hx hb hdg k
  case _ => cases h; exact lv_ishr hx hb hdg k
  case _ => cases h; exact lv_iushr hx hb hdg rfl k
  case _ => cases h; exact lv_ladd hx hb hdg k
  case _ => cases h; exact lv_lsub hx hb hdg k
  case _ => cases h; exact lv_lmul hx hb hdg k
  case _ => cases h; exact lv_land hx hb hdg k
  case _ => cases h; exact lv_lor hx hb hdg k
  case _ => cases h; exact lv_lxor hx hb hdg k
  case _ => split at h; · cases h
            next hne => cases h; exact lv_ldiv hx hb hdg hne k
  case _ => split at h; · cases h
            next hne => cases h; exact lv_lrem hx hb hdg hne k
  case _ => cases h; exact lv_lshl hx hb hdg rfl k
  case _ => cases h; exact lv_lshr hx hb hdg rfl k
  case _ => cases h; exact lv_lushr hx hb hdg rfl k
  case _ => cases h; exact W.lcmp hx hb hdg k
  case _ => cases h; exact lv_i2l hx hb hdg rfl k
  case _ => cases h; exact lv_l2i hx hb hdg rfl k
  case _ => cases h; exact lv_i2b hx hb hdg rfl k
  case _ => cases h; exact lv_i2s hx hb hdg rfl k
  case _ => cases h; exact lv_i2c hx hb hdg rfl k
  case _ => split at h
            · next hc => cases h; exact lv_dup hx hb hdg (by rw [x_cv_cat]; exact hc) k
            · cases h
  case _ => split at h
            · next hc => cases h; exact lv_pop hx hb hdg (by rw [x_cv_cat]; exact hc) k
            · cases h
  case _ => split at h
            · next hc => cases h; exact lv_dup_x1 hx hb hdg (by rw [x_cv_cat]; exact hc.1) (by rw [x_cv_cat]; exact hc.2) k
            · cases h
  case _ => split at h
            · next hc => cases h; exact lv_dup2_11 hx hb hdg (by rw [x_cv_cat]; exact hc.1) (by rw [x_cv_cat]; exact hc.2) k
            · cases h
  case _ => cases h
end XALU
end
section
/-! ===== the shadow machine: locals and branches ===== -/
def x_get : x_Lo → Nat → Option Value
  | [], _ => none
  | (j, v) :: r, i => if j = i then some v else x_get r i
def x_set1 (lo : x_Lo) (i : Nat) (v : Value) : x_Lo := (i, v) :: lo.filter (fun q => !(q.1 == i) && !(q.1 + 1 == i && q.2.category == 2))
def x_set2 (lo : x_Lo) (i : Nat) (v : Value) : x_Lo := (i, v) :: lo.filter (fun q => !(q.1 == i) && (!(q.1 == i + 1) && !(q.1 + 1 == i && q.2.category == 2)))
theorem x_get_mem : ∀ {lo : x_Lo} {i : Nat} {v : Value}, x_get lo i = some v → (i, v) ∈ lo
  | (j, w) :: r, i, v, h => by
    unfold x_get at h
    split at h
    next hj => subst hj; cases h; exact List.mem_cons_self
    next hj => exact List.mem_cons_of_mem _ (x_get_mem h)
theorem x_get_at {ls : Array Slot} {nL bs : Nat} {xa : Nat → Option Nat} {lo : x_Lo} {i : Nat} {v : Value} (hl : lv_has ls nL (x_cl bs xa lo)) (h : x_get lo i = some v) : ls[i]? = some (.val (x_cv bs xa v)) :=
  hl.2.2 (i, x_cv bs xa v) (List.mem_map.mpr ⟨(i, v), x_get_mem h, rfl⟩)
theorem x_cl_set1 (bs : Nat) (xa : Nat → Option Nat) (lo : x_Lo) (i : Nat) (v : Value) : (i, x_cv bs xa v) :: (x_cl bs xa lo).filter (fun q => !(q.1 == i) && !(q.1 + 1 == i && q.2.category == 2)) = x_cl bs xa (x_set1 lo i v) := by
  unfold x_cl x_set1
  rw [List.filter_map, List.map_cons]
  congr 2
  congr 1
  funext q
  simp [Function.comp, x_cv_cat]
theorem x_cl_set2 (bs : Nat) (xa : Nat → Option Nat) (lo : x_Lo) (i : Nat) (v : Value) : (i, x_cv bs xa v) :: (x_cl bs xa lo).filter (fun q => !(q.1 == i) && (!(q.1 == i + 1) && !(q.1 + 1 == i && q.2.category == 2))) = x_cl bs xa (x_set2 lo i v) := by
  unfold x_cl x_set2
  rw [List.filter_map, List.map_cons]
  congr 2
  congr 1
  funext q
  simp [Function.comp, x_cv_cat]
def x_isI : Value → Bool | .int _ => true | _ => false
def x_isL : Value → Bool | .long _ => true | _ => false
/-- references: places, null, the known things outside -/
def x_isR : Value → Bool | .ref _ => true | .null => true | .retAddr _ => true | _ => false
def x_ld (t : Value → Bool) (lo : x_Lo) (i : Nat) (st : List Value) : Option (x_Lo × List Value) := match x_get lo i with
  | some v => if t v = true then some (lo, v :: st) else none
  | none => none
def x_st (nL : Nat) (t : Value → Bool) (lo : x_Lo) (i : Nat) : List Value → Option (x_Lo × List Value)
  | v :: r => if t v = true ∧ i < nL then some (x_set1 lo i v, r) else none
  | [] => none
def x_st2 (nL : Nat) (lo : x_Lo) (i : Nat) : List Value → Option (x_Lo × List Value)
  | .long x :: r => if i + 1 < nL then some (x_set2 lo i (.long x), r) else none
  | _ => none
def x_loc (nL : Nat) : Instr → x_Lo → List Value → Option (x_Lo × List Value)
  | .iload_n k, lo, st => x_ld x_isI lo k st
  | .iload i, lo, st => x_ld x_isI lo i st
  | .lload_n k, lo, st => x_ld x_isL lo k st
  | .lload i, lo, st => x_ld x_isL lo i st
  | .aload_n k, lo, st => x_ld x_isR lo k st
  | .aload i, lo, st => x_ld x_isR lo i st
  | .istore_n k, lo, st => x_st nL x_isI lo k st
  | .istore i, lo, st => x_st nL x_isI lo i st
  | .astore_n k, lo, st => x_st nL x_isR lo k st
  | .astore i, lo, st => x_st nL x_isR lo i st
  | .lstore_n k, lo, st => x_st2 nL lo k st
  | .lstore i, lo, st => x_st2 nL lo i st
  | .iinc i n, lo, st => match x_get lo i with
    | some (.int x) => if i < nL then some (x_set1 lo i (.int (x + Int32.ofInt n)), st) else none
    | _ => none
  | _, _, _ => none
theorem x_ld_spec {t : Value → Bool} {lo lo' : x_Lo} {i : Nat} {st st' : List Value} (h : x_ld t lo i st = some (lo', st')) : ∃ v, x_get lo i = some v ∧ t v = true ∧ lo' = lo ∧ st' = v :: st := by
  unfold x_ld at h
  split at h
  next v hv =>
    split at h
    next ht => cases h; exact ⟨v, hv, ht, rfl, rfl⟩
    next => cases h
  next => cases h
theorem x_st_spec {nL : Nat} {t : Value → Bool} {lo lo' : x_Lo} {i : Nat} {st st' : List Value} (h : x_st nL t lo i st = some (lo', st')) : ∃ v, st = v :: st' ∧ t v = true ∧ i < nL ∧ lo' = x_set1 lo i v := by
  unfold x_st at h
  split at h
  next v r =>
    split at h
    next ht => cases h; exact ⟨v, rfl, ht.1, ht.2, rfl⟩
    next => cases h
  next => cases h
theorem x_st2_spec {nL : Nat} {lo lo' : x_Lo} {i : Nat} {st st' : List Value} (h : x_st2 nL lo i st = some (lo', st')) : ∃ x, st = .long x :: st' ∧ i + 1 < nL ∧ lo' = x_set2 lo i (.long x) := by
  unfold x_st2 at h
  split at h
  next x r =>
    split at h
    next ht => cases h; exact ⟨x, rfl, ht, rfl⟩
    next => cases h
  next => cases h
section XLOC
variable {p : Program} {l : Launch} {e : Env} {R : Room} {s : State} {m : MethodId} {args : Array Value} {below : List Frame} {meth : Method} {c : Code} {H : Heap} {locs : List Loc} {cells slots : Nat} {Q : State → Prop}
variable {cc : ByteArray} {pc : Nat} {ls : Array Slot} {bs : Nat} {xa : Nat → Option Nat} {rest : List Value}
theorem x_aload_n (hx : p.tables.exec = Jvm.exec) (hb : c.code = cc) {k : Fin 4} {v : Value} (hdg : decode cc pc = .ok (.aload_n k, 1)) (ht : x_isR v = true) (hl : ls[(k : Nat)]? = some (.val (x_cv bs xa v)))
    (kk : W p l e R s m args below meth c H locs cells slots Q (F0 m (pc + 1) ls (x_cv bs xa v :: rest))) : W p l e R s m args below meth c H locs cells slots Q (F0 m pc ls rest) := by
  cases v with
  | ref a => exact lv_aload_n hx hb hdg rfl hl kk
  | null => exact lv_aload_nN hx hb hdg rfl hl kk
  | retAddr i =>
    revert hl kk
    simp only [x_cv]
    cases xa i with
    | none => exact fun hl kk => lv_aload_nN hx hb hdg rfl hl kk
    | some a => exact fun hl kk => lv_aload_n hx hb hdg rfl hl kk
  | _ => cases ht
theorem x_aload (hx : p.tables.exec = Jvm.exec) (hb : c.code = cc) {k : Nat} {v : Value} (hdg : decode cc pc = .ok (.aload k, 2)) (ht : x_isR v = true) (hl : ls[k]? = some (.val (x_cv bs xa v)))
    (kk : W p l e R s m args below meth c H locs cells slots Q (F0 m (pc + 2) ls (x_cv bs xa v :: rest))) : W p l e R s m args below meth c H locs cells slots Q (F0 m pc ls rest) := by
  cases v with
  | ref a => exact lv_aload hx hb hdg hl kk
  | null => exact lv_aloadN hx hb hdg hl kk
  | retAddr i =>
    revert hl kk
    simp only [x_cv]
    cases xa i with
    | none => exact fun hl kk => lv_aloadN hx hb hdg hl kk
    | some a => exact fun hl kk => lv_aload hx hb hdg hl kk
  | _ => cases ht
theorem x_astore_n (hx : p.tables.exec = Jvm.exec) (hb : c.code = cc) {k : Fin 4} {nL : Nat} {lo : x_Lo} {v : Value} (hdg : decode cc pc = .ok (.astore_n k, 1)) (ht : x_isR v = true) (hl : lv_has ls nL (x_cl bs xa lo)) (hn : (k : Nat) < nL)
    (kk : ∀ ls' : Array Slot, lv_has ls' nL (x_cl bs xa (x_set1 lo k v)) → W p l e R s m args below meth c H locs cells slots Q (F0 m (pc + 1) ls' rest)) : W p l e R s m args below meth c H locs cells slots Q (F0 m pc ls (x_cv bs xa v :: rest)) := by
  have hs := x_cl_set1 bs xa lo k v
  cases v with
  | ref a => exact lv_astore_n hx hb hdg rfl hl hn hs kk
  | null => exact lv_astore_nN hx hb hdg rfl hl hn hs kk
  | retAddr i =>
    revert hs
    simp only [x_cv]
    cases xa i with
    | none => exact fun hs => lv_astore_nN hx hb hdg rfl hl hn hs kk
    | some a => exact fun hs => lv_astore_n hx hb hdg rfl hl hn hs kk
  | _ => cases ht
theorem x_astore (hx : p.tables.exec = Jvm.exec) (hb : c.code = cc) {k : Nat} {nL : Nat} {lo : x_Lo} {v : Value} (hdg : decode cc pc = .ok (.astore k, 2)) (ht : x_isR v = true) (hl : lv_has ls nL (x_cl bs xa lo)) (hn : k < nL)
    (kk : ∀ ls' : Array Slot, lv_has ls' nL (x_cl bs xa (x_set1 lo k v)) → W p l e R s m args below meth c H locs cells slots Q (F0 m (pc + 2) ls' rest)) : W p l e R s m args below meth c H locs cells slots Q (F0 m pc ls (x_cv bs xa v :: rest)) := by
  have hs := x_cl_set1 bs xa lo k v
  cases v with
  | ref a => exact lv_astore hx hb hdg hl hn hs kk
  | null => exact lv_astoreN hx hb hdg hl hn hs kk
  | retAddr i =>
    revert hs
    simp only [x_cv]
    cases xa i with
    | none => exact fun hs => lv_astoreN hx hb hdg hl hn hs kk
    | some a => exact fun hs => lv_astore hx hb hdg hl hn hs kk
  | _ => cases ht
theorem x_isI_spec {v : Value} (h : x_isI v = true) : ∃ x, v = .int x := by cases v <;> first | exact ⟨_, rfl⟩ | cases h
theorem x_isL_spec {v : Value} (h : x_isL v = true) : ∃ x, v = .long x := by cases v <;> first | exact ⟨_, rfl⟩ | cases h
set_option maxHeartbeats 4000000 in
theorem x_loc_ok (hx : p.tables.exec = Jvm.exec) (hb : c.code = cc) {ins : Instr} {nL : Nat} {lo lo' : x_Lo} {st st' : List Value} (hdg : decode cc pc = .ok (ins, x_len ins)) (h : x_loc nL ins lo st = some (lo', st')) (hl : lv_has ls nL (x_cl bs xa lo))
    (k : ∀ ls' : Array Slot, lv_has ls' nL (x_cl bs xa lo') → W p l e R s m args below meth c H locs cells slots Q (F0 m (pc + x_len ins) ls' (st'.map (x_cv bs xa)))) : W p l e R s m args below meth c H locs cells slots Q (F0 m pc ls (st.map (x_cv bs xa))) := by
  unfold x_loc at h
  split at h
  case _ => obtain ⟨v, h1, h2, rfl, rfl⟩ := x_ld_spec h; obtain ⟨x, rfl⟩ := x_isI_spec h2; exact lv_iload_n hx hb hdg rfl (x_get_at hl h1) (k _ hl)
  case _ => obtain ⟨v, h1, h2, rfl, rfl⟩ := x_ld_spec h; obtain ⟨x, rfl⟩ := x_isI_spec h2; exact lv_iload hx hb hdg (x_get_at hl h1) (k _ hl)
  case _ => obtain ⟨v, h1, h2, rfl, rfl⟩ := x_ld_spec h; obtain ⟨x, rfl⟩ := x_isL_spec h2; exact lv_lload_n hx hb hdg rfl (x_get_at hl h1) (k _ hl)
  case _ => obtain ⟨v, h1, h2, rfl, rfl⟩ := x_ld_spec h; obtain ⟨x, rfl⟩ := x_isL_spec h2; exact lv_lload hx hb hdg (x_get_at hl h1) (k _ hl)
  case _ => obtain ⟨v, h1, h2, rfl, rfl⟩ := x_ld_spec h; exact x_aload_n hx hb hdg h2 (x_get_at hl h1) (k _ hl)
  case _ => obtain ⟨v, h1, h2, rfl, rfl⟩ := x_ld_spec h; exact x_aload hx hb hdg h2 (x_get_at hl h1) (k _ hl)
  case _ => obtain ⟨v, rfl, h2, h3, rfl⟩ := x_st_spec h; obtain ⟨x, rfl⟩ := x_isI_spec h2; exact lv_istore_n hx hb hdg rfl hl h3 (x_cl_set1 bs xa _ _ (.int x)) k
  case _ => obtain ⟨v, rfl, h2, h3, rfl⟩ := x_st_spec h; obtain ⟨x, rfl⟩ := x_isI_spec h2; exact lv_istore hx hb hdg hl h3 (x_cl_set1 bs xa _ _ (.int x)) k
  case _ => obtain ⟨v, rfl, h2, h3, rfl⟩ := x_st_spec h; exact x_astore_n hx hb hdg h2 hl h3 k
  case _ => obtain ⟨v, rfl, h2, h3, rfl⟩ := x_st_spec h; exact x_astore hx hb hdg h2 hl h3 k
  case _ => obtain ⟨x, rfl, h3, rfl⟩ := x_st2_spec h; exact lv_lstore_n hx hb hdg rfl hl h3 (x_cl_set2 bs xa _ _ (.long x)) k
  case _ => obtain ⟨x, rfl, h3, rfl⟩ := x_st2_spec h; exact lv_lstore hx hb hdg hl h3 (x_cl_set2 bs xa _ _ (.long x)) k
  case _ =>
    split at h
    next x hg =>
      split at h
      next hn =>
        cases h
        have hm := x_get_mem hg
        obtain ⟨j, hj⟩ := List.getElem?_of_mem hm
        exact lv_iinc (k := j) hx hb hdg hl (by unfold x_cl; rw [List.getElem?_map, hj]; rfl) rfl hn (x_cl_set1 bs xa _ _ (.int (x + Int32.ofInt _))) k
      next => cases h
    next => cases h
  case _ => cases h
/-- what is known of the things outside: the first 40 are references below the world, all different -/
def x_XA (bs : Nat) (xa : Nat → Option Nat) : Prop := (∀ i, i < 27 → ∃ a, xa i = some a ∧ a < bs) ∧ ∀ i j, i < 27 → j < 27 → xa i = xa j → i = j
def x_known : Value → Bool | .ref _ => true | .null => true | .retAddr i => decide (i < 27) | _ => false
def x_ro (bs : Nat) (xa : Nat → Option Nat) : Value → Option Nat | .ref k => some (bs + k) | .retAddr i => xa i | _ => none
theorem x_ro_cv {bs : Nat} {xa : Nat → Option Nat} {v : Value} (h : x_known v = true) : x_cv bs xa v = va_rf (x_ro bs xa v) := by
  cases v <;> first | rfl | cases h
theorem x_ro_eq {bs : Nat} {xa : Nat → Option Nat} (hX : x_XA bs xa) {v w : Value} (h : x_known v = true) (h2 : x_known w = true) : x_ro bs xa v = x_ro bs xa w ↔ v = w := by
  constructor
  · intro he
    match v, w, h, h2, he with
    | .ref a, .ref b, _, _, he => rw [Nat.add_left_cancel (Option.some.inj he : bs + a = bs + b)]
    | .ref a, .null, _, _, he => cases he
    | .null, .ref a, _, _, he => cases he
    | .null, .null, _, _, _ => rfl
    | .ref a, .retAddr i, _, h2, he =>
      obtain ⟨q, h3, h4⟩ := hX.1 i (by simpa [x_known] using h2)
      simp only [x_ro, h3, Option.some.injEq] at he
      omega
    | .retAddr i, .ref a, h, _, he =>
      obtain ⟨q, h3, h4⟩ := hX.1 i (by simpa [x_known] using h)
      simp only [x_ro, h3, Option.some.injEq] at he
      omega
    | .null, .retAddr i, _, h2, he =>
      obtain ⟨q, h3, h4⟩ := hX.1 i (by simpa [x_known] using h2)
      simp [x_ro, h3] at he
    | .retAddr i, .null, h, _, he =>
      obtain ⟨q, h3, h4⟩ := hX.1 i (by simpa [x_known] using h)
      simp [x_ro, h3] at he
    | .retAddr i, .retAddr j, h, h2, he => rw [hX.2 i j (by simpa [x_known] using h) (by simpa [x_known] using h2) he]
  · intro he; rw [he]
/-- branches: 'a' is the target -/
def x_br (a pc : Nat) : Instr → List Value → Option (Nat × List Value)
  | .ifCond .eq _, .int x :: r => some (if x = 0 then a else pc + 3, r)
  | .ifCond .ne _, .int x :: r => some (if x = 0 then pc + 3 else a, r)
  | .ifCond .lt _, .int x :: r => some (if x < 0 then a else pc + 3, r)
  | .ifCond .ge _, .int x :: r => some (if 0 ≤ x then a else pc + 3, r)
  | .ifCond .gt _, .int x :: r => some (if 0 < x then a else pc + 3, r)
  | .ifCond .le _, .int x :: r => some (if x ≤ 0 then a else pc + 3, r)
  | .if_icmp .eq _, .int y :: .int x :: r => some (if x = y then a else pc + 3, r)
  | .if_icmp .ne _, .int y :: .int x :: r => some (if x = y then pc + 3 else a, r)
  | .if_icmp .lt _, .int y :: .int x :: r => some (if x < y then a else pc + 3, r)
  | .if_icmp .ge _, .int y :: .int x :: r => some (if y ≤ x then a else pc + 3, r)
  | .if_icmp .gt _, .int y :: .int x :: r => some (if y < x then a else pc + 3, r)
  | .if_icmp .le _, .int y :: .int x :: r => some (if x ≤ y then a else pc + 3, r)
  | .goto _, st => some (a, st)
  | .ifnull _, v :: r => if x_known v = true then some (if v = .null then a else pc + 3, r) else none
  | .ifnonnull _, v :: r => if x_known v = true then some (if v = .null then pc + 3 else a, r) else none
  | .if_acmp .eq _, w :: v :: r => if x_known v = true ∧ x_known w = true then some (if v = w then a else pc + 3, r) else none
  | .if_acmp .ne _, w :: v :: r => if x_known v = true ∧ x_known w = true then some (if v = w then pc + 3 else a, r) else none
  | .tableswitch d lo hi offs, .int x :: r => if x.toInt < lo ∨ hi < x.toInt then (if 0 ≤ (pc : Int) + d then some (((pc : Int) + d).toNat, r) else none) else match offs.toList[(x.toInt - lo).toNat]? with
    | some o => if 0 ≤ (pc : Int) + o then some (((pc : Int) + o).toNat, r) else none
    | none => none
  | .lookupswitch d ps, .int x :: r => if (ps.toList.zip (ps.toList.drop 1)).all (fun (a, next) => a.1 < next.1) = true ∧ 0 ≤ (pc : Int) + Op.lookupswitch.offset ps.toList d x.toInt then some (((pc : Int) + Op.lookupswitch.offset ps.toList d x.toInt).toNat, r) else none
  | _, _ => none
/-- the offset of a branch that has one -/
def x_off : Instr → Option Int
  | .ifCond _ o | .if_icmp _ o | .goto o | .ifnull o | .ifnonnull o | .if_acmp _ o => some o
  | _ => none
theorem x_if {A : Prop} [Decidable A] {a b : Nat} {P : Nat → Prop} (k : P (if A then a else b)) : (A → P a) ∧ (¬ A → P b) := by
  by_cases h : A
  · rw [if_pos h] at k; exact ⟨fun _ => k, fun n => absurd h n⟩
  · rw [if_neg h] at k; exact ⟨fun n => absurd n h, fun _ => k⟩
set_option maxHeartbeats 4000000 in
theorem x_br_ok (hx : p.tables.exec = Jvm.exec) (hb : c.code = cc) (hX : x_XA bs xa) {ins : Instr} {a len pc' : Nat} {st st' : List Value} (hdg : decode cc pc = .ok (ins, len)) (hlen : x_off ins ≠ none → len = 3) (hoff : ∀ o, x_off ins = some o → (pc : Int) + o = (a : Int)) (h : x_br a pc ins st = some (pc', st'))
    (k : W p l e R s m args below meth c H locs cells slots Q (F0 m pc' ls (st'.map (x_cv bs xa)))) : W p l e R s m args below meth c H locs cells slots Q (F0 m pc ls (st.map (x_cv bs xa))) := by
  unfold x_br at h
  split at h
  case _ => cases h; cases hlen (by simp [x_off]); have k := x_if (P := fun q => W p l e R s m args below meth c H locs cells slots Q (F0 m q ls _)) k; exact lv_if_eq hx hb hdg (hoff _ rfl) k.1 k.2
  case _ => cases h; cases hlen (by simp [x_off]); have k := x_if (P := fun q => W p l e R s m args below meth c H locs cells slots Q (F0 m q ls _)) k; exact lv_if_ne hx hb hdg (hoff _ rfl) k.2 k.1
  case _ => cases h; cases hlen (by simp [x_off]); have k := x_if (P := fun q => W p l e R s m args below meth c H locs cells slots Q (F0 m q ls _)) k; exact lv_if_lt hx hb hdg (hoff _ rfl) k.1 k.2
  case _ => cases h; cases hlen (by simp [x_off]); have k := x_if (P := fun q => W p l e R s m args below meth c H locs cells slots Q (F0 m q ls _)) k; exact lv_if_ge hx hb hdg (hoff _ rfl) k.1 k.2
  case _ => cases h; cases hlen (by simp [x_off]); have k := x_if (P := fun q => W p l e R s m args below meth c H locs cells slots Q (F0 m q ls _)) k; exact lv_if_gt hx hb hdg (hoff _ rfl) k.1 k.2
  case _ => cases h; cases hlen (by simp [x_off]); have k := x_if (P := fun q => W p l e R s m args below meth c H locs cells slots Q (F0 m q ls _)) k; exact lv_if_le hx hb hdg (hoff _ rfl) k.1 k.2
  case _ => cases h; cases hlen (by simp [x_off]); have k := x_if (P := fun q => W p l e R s m args below meth c H locs cells slots Q (F0 m q ls _)) k; exact lv_icmp_eq hx hb hdg (hoff _ rfl) k.1 k.2
  case _ => cases h; cases hlen (by simp [x_off]); have k := x_if (P := fun q => W p l e R s m args below meth c H locs cells slots Q (F0 m q ls _)) k; exact lv_icmp_ne hx hb hdg (hoff _ rfl) k.2 k.1
  case _ => cases h; cases hlen (by simp [x_off]); have k := x_if (P := fun q => W p l e R s m args below meth c H locs cells slots Q (F0 m q ls _)) k; exact lv_icmp_lt hx hb hdg (hoff _ rfl) k.1 k.2
  case _ => cases h; cases hlen (by simp [x_off]); have k := x_if (P := fun q => W p l e R s m args below meth c H locs cells slots Q (F0 m q ls _)) k; exact lv_icmp_ge hx hb hdg (hoff _ rfl) k.1 k.2
  case _ => cases h; cases hlen (by simp [x_off]); have k := x_if (P := fun q => W p l e R s m args below meth c H locs cells slots Q (F0 m q ls _)) k; exact lv_icmp_gt hx hb hdg (hoff _ rfl) k.1 k.2
  case _ => cases h; cases hlen (by simp [x_off]); have k := x_if (P := fun q => W p l e R s m args below meth c H locs cells slots Q (F0 m q ls _)) k; exact lv_icmp_le hx hb hdg (hoff _ rfl) k.1 k.2
  case _ => cases h; cases hlen (by simp [x_off]); exact lv_goto hx hb hdg (hoff _ rfl) k
  case _ o v r =>
    split at h
    next hk =>
      cases h; cases hlen (by simp [x_off])
      show W p l e R s m args below meth c H locs cells slots Q (F0 m pc ls (x_cv bs xa v :: _))
      cases v with
      | null => exact lv_ifnullN hx hb hdg (hoff _ rfl) k
      | ref q => exact lv_ifnull hx hb hdg (by rw [if_neg (by intro q; cases q)] at k; exact k)
      | retAddr i =>
        obtain ⟨q, h3, -⟩ := hX.1 i (by simpa [x_known] using hk)
        simp only [x_cv, h3, va_rf]
        exact lv_ifnull hx hb hdg (by rw [if_neg (by intro q; cases q)] at k; exact k)
      | _ => cases hk
    next => cases h
  case _ o v r =>
    split at h
    next hk =>
      cases h; cases hlen (by simp [x_off])
      show W p l e R s m args below meth c H locs cells slots Q (F0 m pc ls (x_cv bs xa v :: _))
      cases v with
      | null => exact lv_ifnonnullN hx hb hdg k
      | ref q => exact lv_ifnonnull hx hb hdg (hoff _ rfl) (by rw [if_neg (by intro q; cases q)] at k; exact k)
      | retAddr i =>
        obtain ⟨q, h3, -⟩ := hX.1 i (by simpa [x_known] using hk)
        simp only [x_cv, h3, va_rf]
        exact lv_ifnonnull hx hb hdg (hoff _ rfl) (by rw [if_neg (by intro q; cases q)] at k; exact k)
      | _ => cases hk
    next => cases h
  case _ o w v r =>
    split at h
    next hk =>
      cases h; cases hlen (by simp [x_off])
      have k := x_if (P := fun q => W p l e R s m args below meth c H locs cells slots Q (F0 m q ls _)) k
      show W p l e R s m args below meth c H locs cells slots Q (F0 m pc ls (x_cv bs xa w :: x_cv bs xa v :: _))
      rw [x_ro_cv hk.1, x_ro_cv hk.2]
      exact lv_acmp_eq hx hb hdg (hoff _ rfl) (fun q => k.1 ((x_ro_eq hX hk.1 hk.2).mp q)) (fun q => k.2 (fun z => q ((x_ro_eq hX hk.1 hk.2).mpr z)))
    next => cases h
  case _ o w v r =>
    split at h
    next hk =>
      cases h; cases hlen (by simp [x_off])
      have k := x_if (P := fun q => W p l e R s m args below meth c H locs cells slots Q (F0 m q ls _)) k
      show W p l e R s m args below meth c H locs cells slots Q (F0 m pc ls (x_cv bs xa w :: x_cv bs xa v :: _))
      rw [x_ro_cv hk.1, x_ro_cv hk.2]
      exact lv_acmp_ne hx hb hdg (hoff _ rfl) (fun q => k.2 (fun z => q ((x_ro_eq hX hk.1 hk.2).mpr z))) (fun q => k.1 ((x_ro_eq hX hk.1 hk.2).mp q))
    next => cases h
  case _ d lo hi offs x r =>
    split at h
    next hr =>
      split at h
      next h0 => cases h; exact lv_tableOut hx hb hdg hr (Int.toNat_of_nonneg h0).symm k
      next => cases h
    next hr =>
      split at h
      next o ho =>
        split at h
        next h0 => cases h; exact lv_tableIn hx hb hdg (fun q => hr (Or.inl q)) (fun q => hr (Or.inr q)) (by rw [← Array.getElem?_toList]; exact ho) (Int.toNat_of_nonneg h0).symm k
        next => cases h
      next => cases h
  case _ d ps x r =>
    split at h
    next h0 => cases h; exact lv_lookup hx hb hdg h0.1 rfl (Int.toNat_of_nonneg h0.2).symm k
    next => cases h
  case _ => cases h
end XLOC
end
section
/-! ===== the shadow machine: the heap ===== -/
/-- the words that hold for whoever is called -/
abbrev x_gw : List Cond := x_gw0
def x_nr : Value → Value | .ref k => .ref k | .retAddr i => .retAddr i | _ => .null
theorem x_nr_isR {v : Value} (h : x_isR v = true) : x_nr v = v := by cases v <;> first | rfl | cases h
theorem x_nr_R (v : Value) : x_isR (x_nr v) = true := by cases v <;> rfl
theorem x_cv_R {bs : Nat} {xa : Nat → Option Nat} {v : Value} (h : x_isR v = true) : x_cv bs xa v = va_rf (x_ro bs xa v) := by
  cases v <;> first | rfl | cases h
def x_toI : Value → Int32 | .int x => x | _ => 0
def x_toL : Value → Int64 | .long x => x | _ => 0
/-- what a place holds at a slot, by the slot's type -/
def x_fv (G : x_G) (k j : Nat) : FieldType → Value
  | .long => .long (G.2.2.1 k j)
  | .object _ => x_nr (G.2.2.2 k j)
  | .array _ => x_nr (G.2.2.2 k j)
  | _ => .int (G.2.1 k j)
def x_up2 {α : Type} (f : Nat → Nat → α) (k j : Nat) (x : α) : Nat → Nat → α := fun a => if a = k then (fun b => if b = j then x else f k b) else f a
def x_clr {α : Type} (f : Nat → Nat → α) (k : Nat) (d : α) : Nat → Nat → α := fun a => if a = k then (fun _ => d) else f a
theorem x_up2_same {α : Type} (f : Nat → Nat → α) (k j : Nat) (x : α) : x_up2 f k j x k = fun b => if b = j then x else f k b := if_pos rfl
theorem x_up2_at {α : Type} (f : Nat → Nat → α) (k j : Nat) (x : α) : x_up2 f k j x k j = x := by simp [x_up2]
theorem x_up2_ne {α : Type} {f : Nat → Nat → α} {k j a : Nat} {x : α} (h : a ≠ k) : x_up2 f k j x a = f a := if_neg h
theorem x_up2_off {α : Type} {f : Nat → Nat → α} {k j a b : Nat} {x : α} (h : a ≠ k ∨ b ≠ j) : x_up2 f k j x a b = f a b := by
  unfold x_up2
  by_cases ha : a = k
  · subst ha; rcases h with h | h
    · exact absurd rfl h
    · simp [h]
  · simp [ha]
theorem x_clr_ne {α : Type} {f : Nat → Nat → α} {k a : Nat} {d : α} (h : a ≠ k) : x_clr f k d a = f a := if_neg h
/-- a value comes to a slot of that type -/
def x_put (G : x_G) (k j : Nat) (ty : FieldType) (v : Value) : x_G := match ty with
  | .long => (G.1, G.2.1, x_up2 G.2.2.1 k j (x_toL v), G.2.2.2)
  | .object _ => (G.1, G.2.1, G.2.2.1, x_up2 G.2.2.2 k j v)
  | .array _ => (G.1, G.2.1, G.2.2.1, x_up2 G.2.2.2 k j v)
  | _ => (G.1, x_up2 G.2.1 k j (x_toI v), G.2.2.1, G.2.2.2)
/-- may it? -/
def x_fit : FieldType → Value → Bool
  | .int, .int _ => true
  | .long, .long _ => true
  | .object _, v => x_isR v
  | .array _, v => x_isR v
  | .boolean, .int x => decide (narrow .boolean (.int x) = .int x) && fits .boolean (.int x)
  | .byte, .int x => decide (narrow .byte (.int x) = .int x) && fits .byte (.int x)
  | .char, .int x => decide (narrow .char (.int x) = .int x) && fits .char (.int x)
  | .short, .int x => decide (narrow .short (.int x) = .int x) && fits .short (.int x)
  | _, _ => false
theorem x_fit_narrow {bs : Nat} {xa : Nat → Option Nat} {ty : FieldType} {v : Value} (h : x_fit ty v = true) : narrow ty (x_cv bs xa v) = x_cv bs xa v ∧ fits ty (x_cv bs xa v) = true := by
  have hr : ∀ v : Value, x_isR v = true → x_cv bs xa v = .null ∨ ∃ a, x_cv bs xa v = .ref a := by
    intro v hv
    rw [x_cv_R hv]
    cases x_ro bs xa v with
    | none => exact Or.inl rfl
    | some a => exact Or.inr ⟨a, rfl⟩
  unfold x_fit at h
  split at h
  case _ => exact ⟨rfl, rfl⟩
  case _ => exact ⟨rfl, rfl⟩
  case _ => rcases hr _ h with e | ⟨a, e⟩ <;> rw [e] <;> exact ⟨rfl, rfl⟩
  case _ => rcases hr _ h with e | ⟨a, e⟩ <;> rw [e] <;> exact ⟨rfl, rfl⟩
  case _ => simp only [Bool.and_eq_true, decide_eq_true_eq] at h; exact h
  case _ => simp only [Bool.and_eq_true, decide_eq_true_eq] at h; exact h
  case _ => simp only [Bool.and_eq_true, decide_eq_true_eq] at h; exact h
  case _ => simp only [Bool.and_eq_true, decide_eq_true_eq] at h; exact h
  case _ => cases h
theorem x_put_1 (G : x_G) (k j : Nat) (ty : FieldType) (v : Value) : (x_put G k j ty v).1 = G.1 := by cases ty <;> rfl
theorem x_fv_put {G : x_G} {k j : Nat} {ty : FieldType} {v : Value} (h : x_fit ty v = true) : x_fv (x_put G k j ty v) k j ty = v := by
  unfold x_fit at h
  split at h
  case _ => simp [x_fv, x_put, x_up2_at, x_toI]
  case _ => simp [x_fv, x_put, x_up2_at, x_toL]
  case _ => simp only [x_fv, x_put, x_up2_at]; exact x_nr_isR h
  case _ => simp only [x_fv, x_put, x_up2_at]; exact x_nr_isR h
  case _ => simp [x_fv, x_put, x_up2_at, x_toI]
  case _ => simp [x_fv, x_put, x_up2_at, x_toI]
  case _ => simp [x_fv, x_put, x_up2_at, x_toI]
  case _ => simp [x_fv, x_put, x_up2_at, x_toI]
  case _ => cases h
theorem x_fv_off {G : x_G} {k j a b : Nat} {ty ty' : FieldType} {v : Value} (h : a ≠ k ∨ b ≠ j) : x_fv (x_put G k j ty v) a b ty' = x_fv G a b ty' := by
  cases ty <;> cases ty' <;> simp only [x_fv, x_put, x_up2_off h]
/-- the types of arrays' elements -/
def x_ety : Nat → FieldType | 0 => .int | 1 => .long | 2 => .byte | 3 => .boolean | 4 => .object RX10 | 5 => .object RX5 | _ => .object RX7
abbrev x_Ad : Type := va_G × (Nat → ClassId) × Nat × (Nat → Option Nat)
/-- a place's cell, as the heap holds it -/
def x_at (E : x_Ad) (G : x_G) (H : Heap) (k : Nat) : Nat ⊕ (Nat × Nat) → Prop
  | .inl ci => t_OB (E.2.2.1 + k) (E.1.1 ci) (x_fty ci).length (E.1.2 ci) H (fun j => x_cv E.2.2.1 E.2.2.2 (x_fv G k j ((x_fty ci).getD j .int)))
  | .inr (t, n) => H[E.2.2.1 + k]? = some (arrV (E.2.1 t) n (fun j => x_cv E.2.2.1 E.2.2.2 (x_fv G k j (x_ety t))))
def x_HR (E : x_Ad) (G : x_G) (H : Heap) : Prop := H.size = E.2.2.1 + G.1.length ∧ ∀ k sh, G.1[k]? = some sh → x_at E G H k sh
/-- what is known of the tables -/
def x_KA (E : x_Ad) (U : State) : Prop := (∀ ci q, vwCl[ci]? = some q → u_Kn U q.1 q.2.1 q.2.2 (E.1.1 ci) (E.1.2 ci)) ∧ ∀ t, t < 7 → ArrOfT U (E.2.1 t) (x_ety t) ∧ va_RA U (E.2.1 t) (x_ety t)
theorem x_KA.moved {E : x_Ad} {u U : State} (hvm : u.vm.Alike U.vm) (h : x_KA E u) : x_KA E U := ⟨fun ci q hq => u_Kn_moved hvm (h.1 ci q hq), fun t ht => ⟨arrOfT_moved hvm (h.2 t ht).1, (h.2 t ht).2.moved hvm⟩⟩
/-- what a class's rows of the tables say -/
def x_CI (ci : Nat) (C : String) (T : u_T) (N : Nat) : Prop := vwCl[ci]? = some (C, T, N) ∧ (x_fty ci).length = N ∧ (∀ k, k < N → parseFieldDescriptor (T k).2.2.1 = some ((x_fty ci).getD k .int)) ∧ (∀ a, a < N → ∀ b, b < N → a ≠ b → (T a).2.1 ≠ (T b).2.1) ∧ ∀ w ∈ u_ws C T N, w ∈ x_gw
theorem x_at_kept {E : x_Ad} {G G' : x_G} {H H1 : Heap} {k : Nat} {sh : Nat ⊕ (Nat × Nat)} (h : x_at E G H k sh) (hq : H1[E.2.2.1 + k]? = H[E.2.2.1 + k]?) (hG : ∀ j ty, x_fv G' k j ty = x_fv G k j ty) : x_at E G' H1 k sh := by
  rcases sh with ci | ⟨t, n⟩
  · exact (t_OB.kept h hq).to (fun j _ => by rw [hG])
  · show H1[_]? = _
    rw [hq]
    exact h.trans (by simp only [hG])
theorem x_HR_put {E : x_Ad} {G : x_G} {H H1 : Heap} {k j : Nat} {ty : FieldType} {v : Value} {sh : Nat ⊕ (Nat × Nat)} (h : x_HR E G H) (hsh : G.1[k]? = some sh) (hz : H1.size = H.size) (ho : ∀ q, q ≠ E.2.2.1 + k → H1[q]? = H[q]?) (ha : x_at E (x_put G k j ty v) H1 k sh) : x_HR E (x_put G k j ty v) H1 := by
  refine ⟨by rw [hz, h.1, x_put_1], fun a sh' hs => ?_⟩
  rw [x_put_1] at hs
  by_cases hak : a = k
  · subst hak
    rw [hsh] at hs
    cases hs
    exact ha
  · exact x_at_kept (h.2 a sh' hs) (ho _ (by omega)) (fun j' ty' => x_fv_off (Or.inl hak))
/-- a new cell behind all others, with zeros -/
def x_new (G : x_G) (sh : Nat ⊕ (Nat × Nat)) : x_G := (G.1 ++ [sh], x_clr G.2.1 G.1.length 0, x_clr G.2.2.1 G.1.length 0, x_clr G.2.2.2 G.1.length .null)
theorem x_fv_new {G : x_G} {sh : Nat ⊕ (Nat × Nat)} {k j : Nat} {ty : FieldType} (h : k ≠ G.1.length) : x_fv (x_new G sh) k j ty = x_fv G k j ty := by
  cases ty <;> simp only [x_fv, x_new, x_clr_ne h]
theorem x_fv_new0 {G : x_G} {sh : Nat ⊕ (Nat × Nat)} {j : Nat} {ty : FieldType} (h : ty ≠ .float) (h2 : ty ≠ .double) : x_fv (x_new G sh) G.1.length j ty = defaultValue ty := by
  cases ty <;> simp_all [x_fv, x_new, x_clr, defaultValue, x_nr]
theorem x_HR_new {E : x_Ad} {G : x_G} {H H1 : Heap} {sh : Nat ⊕ (Nat × Nat)} (h : x_HR E G H) (hz : H1.size = H.size + 1) (ho : ∀ q, q < H.size → H1[q]? = H[q]?) (ha : x_at E (x_new G sh) H1 G.1.length sh) : x_HR E (x_new G sh) H1 := by
  refine ⟨by rw [hz, h.1]; simp [x_new]; omega, fun a sh' hs => ?_⟩
  by_cases hal : a < G.1.length
  · rw [show (x_new G sh).1 = G.1 ++ [sh] from rfl, List.getElem?_append_left hal] at hs
    exact x_at_kept (h.2 a sh' hs) (ho _ (by rw [h.1]; omega)) (fun j' ty' => x_fv_new (by omega))
  · rw [show (x_new G sh).1 = G.1 ++ [sh] from rfl, List.getElem?_append_right (by omega)] at hs
    have hz : a - G.1.length < 1 := (List.getElem?_eq_some_iff.mp hs).1
    have ha' : a = G.1.length := by omega
    subst ha'
    rw [Nat.sub_self] at hs
    cases hs
    exact ha
section XHEAP
variable {p : Program} {l : Launch} {e : Env} {R : Room} {s : State} {m : MethodId} {args : Array Value} {below : List Frame} {meth : Method} {c : Code} {H : Heap} {locs : List Loc} {cells slots : Nat} {Q : State → Prop}
variable {cc : ByteArray} {pc : Nat} {ls : Array Slot} {rest : List Value} {E : x_Ad} {G : x_G}
theorem x_getf (hx : p.tables.exec = Jvm.exec) (hb : c.code = cc) (hts : ∀ w ∈ x_gw, w.before args s = true) {own C : String} {T : u_T} {N ci index k j : Nat} (hC : x_CI ci C T N) (hown : s.vm.findClass own = some m.cls) (hK : x_KA E s) (hH : x_HR E G H) (hk : G.1[k]? = some (.inl ci)) (hj : j < N)
    (hlink : (Cond.fieldLink own index (T j).1 (T j).2.1 (T j).2.2.1).before args s = true ∨ ∃ host, (Cond.fieldLinkNest own index (T j).1 (T j).2.1 (T j).2.2.1 host).before args s = true) (hdg : decode cc pc = .ok (.getfield index, 3))
    (kk : W p l e R s m args below meth c H locs cells slots Q (F0 m (pc + 3) ls (x_cv E.2.2.1 E.2.2.2 (x_fv G k j ((x_fty ci).getD j .int)) :: rest))) : W p l e R s m args below meth c H locs cells slots Q (F0 m pc ls (.ref (E.2.2.1 + k) :: rest)) := by
  obtain ⟨hc, hN, -, -, hin⟩ := hC
  obtain ⟨cell, q1, q2, q3, q4⟩ := hH.2 k _ hk
  obtain ⟨hS, hfc, kC, hkC, hkind⟩ := hK.1 ci _ hc
  obtain ⟨cf, kf, fi, f, hi, hsl⟩ := hS j hj
  have h1 : cell.vm ≠ .unknown := by rw [q3]; exact fun h => by cases h
  have h2 := q4 j (by rw [hN]; exact hj)
  rw [← hsl] at h2
  rcases hlink with hlink | ⟨host, hlink⟩
  · exact W.getf hx hb hown hlink hi (u_facts hfc hkC (u_lays hts hin hj) hi).1 q1 h1 h2 rfl rfl hdg kk
  · exact va_Wgetf hx hb hown hlink hi (u_facts hfc hkC (u_lays hts hin hj) hi).1 q1 h1 h2 rfl rfl hdg kk
theorem x_putf (hx : p.tables.exec = Jvm.exec) (hb : c.code = cc) (hts : ∀ w ∈ x_gw, w.before args s = true) {own C : String} {T : u_T} {N ci index k j : Nat} {v : Value} (hC : x_CI ci C T N) (hown : s.vm.findClass own = some m.cls) (hK : x_KA E s) (hH : x_HR E G H) (hk : G.1[k]? = some (.inl ci)) (hj : j < N)
    (hfit : x_fit ((x_fty ci).getD j .int) v = true)
    (hlink : ((T j).2.2.2 = false ∧ ((Cond.fieldLink own index (T j).1 (T j).2.1 (T j).2.2.1).before args s = true ∨ ∃ host, (Cond.fieldLinkNest own index (T j).1 (T j).2.1 (T j).2.2.1 host).before args s = true)) ∨ ((T j).2.2.2 = true ∧ meth.name = "<init>" ∧ (T j).1 = own ∧ (Cond.fieldLink own index (T j).1 (T j).2.1 (T j).2.2.1).before args s = true)) (hdg : decode cc pc = .ok (.putfield index, 3))
    (kk : ∀ (H1 : Heap) (z : Loc), z.base = E.2.2.1 + k → x_HR E (x_put G k j ((x_fty ci).getD j .int) v) H1 → (∀ q, q < E.2.2.1 → H1[q]? = H[q]?) → W p l e R s m args below meth c H1 (locs ++ [z]) cells slots Q (F0 m (pc + 3) ls rest)) : W p l e R s m args below meth c H locs cells slots Q (F0 m pc ls (x_cv E.2.2.1 E.2.2.2 v :: .ref (E.2.2.1 + k) :: rest)) := by
  obtain ⟨hc, hN, hty, hnm, hin⟩ := hC
  have hap := va_apart (own := own) (tys := []) hts hin (fun k => (x_fty ci).getD k .int) hty hnm (D := E.1) ⟨hK.1, fun k q h => by simp at h⟩ hc
  obtain ⟨cell, q1, q2, q3, q4⟩ := hH.2 k _ hk
  obtain ⟨hS, hfc, kC, hkC, hkind⟩ := hK.1 ci _ hc
  obtain ⟨cf, kf, fi, f, hi, hsl⟩ := hS j hj
  have hst := (u_facts hfc hkC (u_lays hts hin hj) hi).1
  obtain ⟨hn, hf⟩ := x_fit_narrow (bs := E.2.2.1) (xa := E.2.2.2) hfit
  have hlt : f.slot < cell.slots.size := by rw [hsl]; exact k2_hasslot (q4 j (by rw [hN]; exact hj))
  have key : ∀ H1 : Heap, H1[E.2.2.1 + k]? = some (cell.setSlot f.slot (x_cv E.2.2.1 E.2.2.2 v)) → H1.size = H.size → (∀ q, q ≠ E.2.2.1 + k → H1[q]? = H[q]?) → x_HR E (x_put G k j ((x_fty ci).getD j .int) v) H1 := by
    intro H1 e1 e2 e3
    rw [hsl] at e1
    refine x_HR_put hH hk e2 e3 ?_
    refine ⟨_, e1, q2, q3, fun a ha => ?_⟩
    rw [t_set q4 (fun a b ha hb => hap a b (by rw [← hN]; exact ha) (by rw [← hN]; exact hb)) (by rw [hN]; exact hj) _ a ha]
    congr 1
    unfold updV
    by_cases haj : a = j
    · subst haj
      rw [if_pos rfl]; dsimp only; rw [x_fv_put hfit]
    · rw [if_neg haj]; dsimp only; rw [x_fv_off (Or.inr haj)]
  have hlow : ∀ H1 : Heap, (∀ q, q ≠ E.2.2.1 + k → H1[q]? = H[q]?) → ∀ q, q < E.2.2.1 → H1[q]? = H[q]? := fun H1 h q hq => h q (by omega)
  rcases hlink with ⟨hfin, hlink⟩ | ⟨hfin, hin2, hdecl, hlink⟩
  · have hlay := hts _ (hin _ (u_in_lay hj))
    unfold u_lay at hlay
    rw [if_neg (by rw [hfin]; decide)] at hlay
    have h6 := u_store hfc hkC hkind hlay hi (hty j hj) hn hf
    rcases hlink with hlink | ⟨host, hlink⟩
    · exact W.putK hx hb (f := f) ⟨hown, hlink, ⟨_, _, _, hi⟩, hst⟩ (by rw [q2]; exact h6) q1 q3 hlt rfl rfl hdg fun H' e1 e2 e3 => kk H' _ rfl (key H' e1 e2 e3) (hlow H' e3)
    · exact va_WputK hx hb (f := f) hown hlink hi hst (by rw [q2]; exact h6) q1 q3 hlt rfl rfl hdg fun H' e1 e2 e3 => kk H' _ rfl (key H' e1 e2 e3) (hlow H' e3)
  · have hlay := hts _ (hin _ (u_in_lay hj))
    unfold u_lay at hlay
    rw [if_pos hfin] at hlay
    have hcf : m.cls = cf := by
      obtain ⟨_, _, c', _, _, _, -, -, hf', -, -, -, hown2, -⟩ := Cond.laysFinal_spec hlay
      have e1 : c' = cf := by have := hi.symm.trans hf'; simp at this; exact this.1.symm
      rw [hdecl] at hown2
      rw [← e1]; exact Option.some.inj (hown.symm.trans hown2)
    have h6 := u_fits hfc hkC hkind (Or.inr hlay) hi (hty j hj) hn hf
    exact W.putFinK hx hb hown hlink hi hst hcf hin2 (by rw [q2]; exact h6) q1 q3 hlt rfl rfl hdg fun H' e1 e2 e3 => kk H' _ rfl (key H' e1 e2 e3) (hlow H' e3)
end XHEAP
end
section
/-! ===== the shadow machine: arrays, new cells ===== -/
section XARR
variable {p : Program} {l : Launch} {e : Env} {R : Room} {s : State} {m : MethodId} {args : Array Value} {below : List Frame} {meth : Method} {c : Code} {H : Heap} {locs : List Loc} {cells slots : Nat} {Q : State → Prop}
variable {cc : ByteArray} {pc : Nat} {ls : Array Slot} {rest : List Value} {E : x_Ad} {G : x_G}
theorem x_alen (hx : p.tables.exec = Jvm.exec) (hb : c.code = cc) (hK : x_KA E s) (hH : x_HR E G H) {k t n : Nat} (hk : G.1[k]? = some (.inr (t, n))) (ht : t < 7) (hdg : decode cc pc = .ok (.arraylength, 1))
    (kk : W p l e R s m args below meth c H locs cells slots Q (F0 m (pc + 1) ls (.int (Int32.ofNat n) :: rest))) : W p l e R s m args below meth c H locs cells slots Q (F0 m pc ls (.ref (E.2.2.1 + k) :: rest)) :=
  W.alen (n := Int32.ofNat n) hx hb (hH.2 k _ hk) ((hK.2 t ht).1 n _) (by rw [arrV_size] <;> rfl) rfl rfl hdg kk
def x_ald : Nat → Instr | 0 => .iaload | 1 => .laload | 2 => .baload | 3 => .baload | _ => .aaload
theorem x_ald_ok (hx : p.tables.exec = Jvm.exec) (hb : c.code = cc) (hK : x_KA E s) (hH : x_HR E G H) {k t n : Nat} (hk : G.1[k]? = some (.inr (t, n))) (ht : t < 7) {i : Int32} (hi : vp_in i n) (hdg : decode cc pc = .ok (x_ald t, 1))
    (kk : W p l e R s m args below meth c H locs cells slots Q (F0 m (pc + 1) ls (x_cv E.2.2.1 E.2.2.2 (x_fv G k i.toNatClampNeg (x_ety t)) :: rest))) : W p l e R s m args below meth c H locs cells slots Q (F0 m pc ls (.int i :: .ref (E.2.2.1 + k) :: rest)) := by
  have hlt : i.toNatClampNeg < n := Nat.not_le.mp fun q => hi (Or.inr q)
  have hc := hH.2 k _ hk
  have ha := (hK.2 t ht).1 n (fun j => x_cv E.2.2.1 E.2.2.2 (x_fv G k j (x_ety t)))
  have hsz : ¬ (i < 0 ∨ (arrV (E.2.1 t) n (fun j => x_cv E.2.2.1 E.2.2.2 (x_fv G k j (x_ety t)))).slots.size ≤ i.toNatClampNeg) := by rw [arrV_size]; exact hi
  have hv : (arrV (E.2.1 t) n (fun j => x_cv E.2.2.1 E.2.2.2 (x_fv G k j (x_ety t)))).slots[i.toNatClampNeg]? = some (x_cv E.2.2.1 E.2.2.2 (x_fv G k i.toNatClampNeg (x_ety t))) := arrV_read _ _ hlt
  have hu : (arrV (E.2.1 t) n (fun j => x_cv E.2.2.1 E.2.2.2 (x_fv G k j (x_ety t)))).vm ≠ .unknown := fun q => by cases q
  obtain rfl | rfl | rfl | rfl | rfl | rfl | rfl : t = 0 ∨ t = 1 ∨ t = 2 ∨ t = 3 ∨ t = 4 ∨ t = 5 ∨ t = 6 := by omega
  · exact W.iald hx hb hc ha hu hsz hv rfl rfl hdg kk
  · exact W.lald hx hb hc ha hu hsz hv rfl rfl hdg kk
  · exact W.bald hx hb hc ha hu hsz hv rfl rfl hdg kk
  · exact W.zald hx hb hc ha hu hsz hv rfl rfl hdg kk
  · exact W.aald hx hb hc ha rfl hu hsz hv rfl rfl hdg kk
  · exact W.aald hx hb hc ha rfl hu hsz hv rfl rfl hdg kk
  · exact W.aald hx hb hc ha rfl hu hsz hv rfl rfl hdg kk
theorem x_low {b k : Nat} {H H1 : Heap} (h : ∀ q : Nat, q ≠ b + k → H1[q]? = H[q]?) : ∀ q : Nat, q < b → H1[q]? = H[q]? := fun q hq => h q (by omega)
/-- an array's cell behind a store -/
theorem x_stored {k t n j : Nat} {v : Value} {H1 : Heap} (hH : x_HR E G H) (hk : G.1[k]? = some (.inr (t, n))) (hfit : x_fit (x_ety t) v = true) (e1 : H1[E.2.2.1 + k]? = some ((arrV (E.2.1 t) n (fun j => x_cv E.2.2.1 E.2.2.2 (x_fv G k j (x_ety t)))).setSlot j (x_cv E.2.2.1 E.2.2.2 v))) (e2 : H1.size = H.size) (e3 : ∀ q, q ≠ E.2.2.1 + k → H1[q]? = H[q]?) : x_HR E (x_put G k j (x_ety t) v) H1 := by
  refine x_HR_put hH hk e2 e3 ?_
  show H1[_]? = _
  rw [e1, arrV_store]
  congr 2
  funext q
  unfold updV
  by_cases hq : q = j
  · subst hq; rw [if_pos rfl, x_fv_put hfit]
  · rw [if_neg hq]; dsimp only; rw [x_fv_off (Or.inr hq)]
theorem x_iast_ok (hx : p.tables.exec = Jvm.exec) (hb : c.code = cc) (hK : x_KA E s) (hH : x_HR E G H) {k n : Nat} (hk : G.1[k]? = some (.inr (0, n))) {i x : Int32} (hi : vp_in i n) (hdg : decode cc pc = .ok (.iastore, 1))
    (kk : ∀ (H1 : Heap) (z : Loc), z.base = E.2.2.1 + k → x_HR E (x_put G k i.toNatClampNeg .int (.int x)) H1 → (∀ q, q < E.2.2.1 → H1[q]? = H[q]?) → W p l e R s m args below meth c H1 (locs ++ [z]) cells slots Q (F0 m (pc + 1) ls rest)) : W p l e R s m args below meth c H locs cells slots Q (F0 m pc ls (.int x :: .int i :: .ref (E.2.2.1 + k) :: rest)) :=
  W.iast hx hb (hH.2 k _ hk) ((hK.2 0 (by omega)).1 n _) (fun q => by cases q) (by rw [arrV_size]; exact hi) rfl rfl hdg fun H1 e1 e2 e3 => kk H1 _ rfl (x_stored (t := 0) hH hk rfl e1 e2 e3) (x_low e3)
theorem x_last_ok (hx : p.tables.exec = Jvm.exec) (hb : c.code = cc) (hK : x_KA E s) (hH : x_HR E G H) {k n : Nat} (hk : G.1[k]? = some (.inr (1, n))) {i : Int32} {x : Int64} (hi : vp_in i n) (hdg : decode cc pc = .ok (.lastore, 1))
    (kk : ∀ (H1 : Heap) (z : Loc), z.base = E.2.2.1 + k → x_HR E (x_put G k i.toNatClampNeg .long (.long x)) H1 → (∀ q, q < E.2.2.1 → H1[q]? = H[q]?) → W p l e R s m args below meth c H1 (locs ++ [z]) cells slots Q (F0 m (pc + 1) ls rest)) : W p l e R s m args below meth c H locs cells slots Q (F0 m pc ls (.long x :: .int i :: .ref (E.2.2.1 + k) :: rest)) :=
  W.last hx hb (hH.2 k _ hk) ((hK.2 1 (by omega)).1 n _) (fun q => by cases q) (by rw [arrV_size]; exact hi) rfl rfl hdg fun H1 e1 e2 e3 => kk H1 _ rfl (x_stored (t := 1) hH hk rfl e1 e2 e3) (x_low e3)
theorem x_nb_fit (x : Int32) : x_fit .byte (narrow .byte (.int x)) = true := by
  show (decide (narrow .byte (.int x.toInt8.toInt32) = .int x.toInt8.toInt32) && fits .byte (.int x.toInt8.toInt32)) = true
  rw [pk_nb, pk_fb]; simp
theorem x_nz_fit (x : Int32) : x_fit .boolean (narrow .boolean (.int x)) = true := by
  show (decide (narrow .boolean (.int (x &&& 1)) = .int (x &&& 1)) && fits .boolean (.int (x &&& 1))) = true
  have h : x &&& 1 = 0 ∨ x &&& 1 = 1 := by
    have h1 : (x &&& 1).toBitVec = x.toBitVec &&& 1#32 := rfl
    rcases Nat.mod_two_eq_zero_or_one x.toBitVec.toNat with q | q
    · left
      apply Int32.toBitVec_inj.mp
      apply BitVec.eq_of_toNat_eq
      rw [h1, BitVec.toNat_and]
      simpa using q
    · right
      apply Int32.toBitVec_inj.mp
      apply BitVec.eq_of_toNat_eq
      rw [h1, BitVec.toNat_and]
      simpa using q
  rcases h with h | h <;> rw [h] <;> decide
theorem x_bast_ok (hx : p.tables.exec = Jvm.exec) (hb : c.code = cc) (hK : x_KA E s) (hH : x_HR E G H) {k n : Nat} (hk : G.1[k]? = some (.inr (2, n))) {i x : Int32} (hi : vp_in i n) (hdg : decode cc pc = .ok (.bastore, 1))
    (kk : ∀ (H1 : Heap) (z : Loc), z.base = E.2.2.1 + k → x_HR E (x_put G k i.toNatClampNeg .byte (narrow .byte (.int x))) H1 → (∀ q, q < E.2.2.1 → H1[q]? = H[q]?) → W p l e R s m args below meth c H1 (locs ++ [z]) cells slots Q (F0 m (pc + 1) ls rest)) : W p l e R s m args below meth c H locs cells slots Q (F0 m pc ls (.int x :: .int i :: .ref (E.2.2.1 + k) :: rest)) :=
  W.bast hx hb (hH.2 k _ hk) ((hK.2 2 (by omega)).1 n _) (fun q => by cases q) (by rw [arrV_size]; exact hi) rfl rfl hdg fun H1 e1 e2 e3 => kk H1 _ rfl (x_stored (t := 2) hH hk (x_nb_fit x) e1 e2 e3) (x_low e3)
theorem x_zast_ok (hx : p.tables.exec = Jvm.exec) (hb : c.code = cc) (hK : x_KA E s) (hH : x_HR E G H) {k n : Nat} (hk : G.1[k]? = some (.inr (3, n))) {i x : Int32} (hi : vp_in i n) (hdg : decode cc pc = .ok (.bastore, 1))
    (kk : ∀ (H1 : Heap) (z : Loc), z.base = E.2.2.1 + k → x_HR E (x_put G k i.toNatClampNeg .boolean (narrow .boolean (.int x))) H1 → (∀ q, q < E.2.2.1 → H1[q]? = H[q]?) → W p l e R s m args below meth c H1 (locs ++ [z]) cells slots Q (F0 m (pc + 1) ls rest)) : W p l e R s m args below meth c H locs cells slots Q (F0 m pc ls (.int x :: .int i :: .ref (E.2.2.1 + k) :: rest)) :=
  W.zast hx hb (hH.2 k _ hk) ((hK.2 3 (by omega)).1 n _) (fun q => by cases q) (by rw [arrV_size]; exact hi) rfl rfl hdg fun H1 e1 e2 e3 => kk H1 _ rfl (x_stored (t := 3) hH hk (x_nz_fit x) e1 e2 e3) (x_low e3)
/-- the class of the elements of an array of references -/
def x_eci : Nat → Nat | 4 => 9 | 5 => 4 | _ => 6
theorem x_aast_ok (hx : p.tables.exec = Jvm.exec) (hb : c.code = cc) (hK : x_KA E s) (hH : x_HR E G H) {k t n k2 : Nat} (hk : G.1[k]? = some (.inr (t, n))) (ht4 : 4 ≤ t) (ht : t < 7) {i : Int32} (hi : vp_in i n) (hk2 : G.1[k2]? = some (.inl (x_eci t))) (hdg : decode cc pc = .ok (.aastore, 1))
    (kk : ∀ (H1 : Heap) (z : Loc), z.base = E.2.2.1 + k → x_HR E (x_put G k i.toNatClampNeg (x_ety t) (.ref k2)) H1 → (∀ q, q < E.2.2.1 → H1[q]? = H[q]?) → W p l e R s m args below meth c H1 (locs ++ [z]) cells slots Q (F0 m (pc + 1) ls rest)) : W p l e R s m args below meth c H locs cells slots Q (F0 m pc ls (.ref (E.2.2.1 + k2) :: .int i :: .ref (E.2.2.1 + k) :: rest)) := by
  have hlt : i.toNatClampNeg < n := Nat.not_le.mp fun q => hi (Or.inr q)
  have h0 : ¬ i < 0 := fun q => hi (Or.inl q)
  have hcl : ∃ C T N, vwCl[x_eci t]? = some (C, T, N) ∧ x_ety t = .object C := by
    match t, ht4, ht with
    | 4, _, _ => exact ⟨_, _, _, rfl, rfl⟩
    | 5, _, _ => exact ⟨_, _, _, rfl, rfl⟩
    | 6, _, _ => exact ⟨_, _, _, rfl, rfl⟩
  obtain ⟨C, T, N, hvw, hty⟩ := hcl
  have hcls := (hK.1 (x_eci t) _ hvw).2
  have hra := (hK.2 t ht).2
  rw [hty] at hra
  obtain ⟨kA, comp, k1, k2', k3, -⟩ := hra
  have hcomp : comp = E.1.1 (x_eci t) := Option.some.inj (k3.symm.trans hcls.1)
  subst hcomp
  obtain ⟨cellV, g1, g2, g3, -⟩ := hH.2 k2 _ hk2
  obtain ⟨kC, hkC, -⟩ := hcls.2
  refine W.aast hx hb (hH.2 k _ hk) (fun q h => by cases h) (fun h => by cases h) k1 k2' rfl hkC ⟨h0, by rw [arrV_size]; exact hlt⟩ g1 (fun q h => by rw [g3] at h; cases h) (by rw [g2]; exact hkC) (by rw [g2]; exact va_assign hcls) rfl rfl hdg fun H1 e1 e2 e3 => ?_
  exact kk H1 _ rfl (x_stored hH hk (by rw [hty]; rfl) e1 e2 e3) (x_low e3)
theorem x_aastN_ok (hx : p.tables.exec = Jvm.exec) (hb : c.code = cc) (hK : x_KA E s) (hH : x_HR E G H) {k t n : Nat} (hk : G.1[k]? = some (.inr (t, n))) (ht4 : 4 ≤ t) (ht : t < 7) {i : Int32} (hi : vp_in i n) (hdg : decode cc pc = .ok (.aastore, 1))
    (kk : ∀ (H1 : Heap) (z : Loc), z.base = E.2.2.1 + k → x_HR E (x_put G k i.toNatClampNeg (x_ety t) .null) H1 → (∀ q, q < E.2.2.1 → H1[q]? = H[q]?) → W p l e R s m args below meth c H1 (locs ++ [z]) cells slots Q (F0 m (pc + 1) ls rest)) : W p l e R s m args below meth c H locs cells slots Q (F0 m pc ls (.null :: .int i :: .ref (E.2.2.1 + k) :: rest)) := by
  have hcl : ∃ C, x_ety t = .object C := by
    match t, ht4, ht with
    | 4, _, _ => exact ⟨_, rfl⟩
    | 5, _, _ => exact ⟨_, rfl⟩
    | 6, _, _ => exact ⟨_, rfl⟩
  obtain ⟨C, hty⟩ := hcl
  have ha := (hK.2 t ht).1
  rw [hty] at ha
  refine va_WaastN (C := C) hx hb (hH.2 k _ hk) (ha n _) (fun h => by cases h) (by rw [arrV_size]; exact hi) rfl rfl hdg fun H1 e1 e2 e3 => ?_
  exact kk H1 _ rfl (x_stored hH hk (by rw [hty]; rfl) e1 e2 e3) (x_low e3)
theorem x_new_ok (hx : p.tables.exec = Jvm.exec) (hb : c.code = cc) (hts : ∀ w ∈ x_gw, w.before args s = true) {own C : String} {T : u_T} {N ci index : Nat} (hC : x_CI ci C T N) (hnf : ∀ j, (x_fty ci).getD j .int ≠ .float ∧ (x_fty ci).getD j .int ≠ .double) (hown : s.vm.findClass own = some m.cls) (hK : x_KA E s) (hH : x_HR E G H)
    (hcl : (Cond.classLink own index C).before args s = true) (hinst : (Cond.instantiable C N).before args s = true) (hini : (Cond.initialized C).before args s = true) (hcells : cells + 1 ≤ R.cells) (hslots : slots + N ≤ R.slots) (hdg : decode cc pc = .ok (.new index, 3))
    (kk : ∀ H1 : Heap, x_HR E (x_new G (.inl ci)) H1 → (∀ q, q < E.2.2.1 → H1[q]? = H[q]?) → W p l e R s m args below meth c H1 locs (cells + 1) (slots + N) Q (F0 m (pc + 3) ls (.ref (E.2.2.1 + G.1.length) :: rest))) : W p l e R s m args below meth c H locs cells slots Q (F0 m pc ls rest) := by
  obtain ⟨hc, hN, hty, -, hin⟩ := hC
  have hKn := hK.1 ci _ hc
  refine W.newcK hx hb hown hcl hinst hini rfl hdg hcells hslots hKn.2.1 hH.1 fun H1 kC hkC e1 z1 o1 => ?_
  refine kk H1 (x_HR_new hH (by rw [z1, hH.1]) (fun q hq => o1 q (by rw [← hH.1]; exact hq)) ?_) (fun q hq => o1 q (by omega))
  have hb := u_born (fun k => (x_fty ci).getD k .int) hts hin hKn hkC e1 hty
  show t_OB _ _ (x_fty ci).length _ _ _
  rw [hN]
  refine hb.to fun j hj => ?_
  rw [x_fv_new0 (hnf j).1 (hnf j).2]
  cases (x_fty ci).getD j .int <;> rfl
def x_atn : ArrayType → Option Nat | .int => some 0 | .long => some 1 | .byte => some 2 | .boolean => some 3 | _ => none
theorem x_newa_ok (hx : p.tables.exec = Jvm.exec) (hb : c.code = cc) (hK : x_KA E s) (hH : x_HR E G H) {at_ : ArrayType} {t : Nat} (hat : x_atn at_ = some t) {n : Int32} (harr : (Cond.arrayClass (newarray.typeOf at_)).before args s = true) (hn : ¬ n < 0) (hN : n.toNatClampNeg ≤ 100000)
    (hcells : cells + 1 ≤ R.cells) (hslots : slots + n.toNatClampNeg ≤ R.slots) (hdg : decode cc pc = .ok (.newarray at_, 2))
    (kk : ∀ H1 : Heap, x_HR E (x_new G (.inr (t, n.toNatClampNeg))) H1 → (∀ q, q < E.2.2.1 → H1[q]? = H[q]?) → W p l e R s m args below meth c H1 locs (cells + 1) (slots + n.toNatClampNeg) Q (F0 m (pc + 2) ls (.ref (E.2.2.1 + G.1.length) :: rest))) : W p l e R s m args below meth c H locs cells slots Q (F0 m pc ls (.int n :: rest)) := by
  have h4 : t < 4 ∧ newarray.typeOf at_ = x_ety t := by cases at_ <;> cases hat <;> exact ⟨by omega, rfl⟩
  refine va_newaK hx hb harr rfl hdg rfl hn rfl (by
    have : componentBytes (newarray.typeOf at_) ≤ 8 := by cases at_ <;> decide
    calc n.toNatClampNeg * componentBytes (newarray.typeOf at_) ≤ 100000 * 8 := Nat.mul_le_mul hN this
      _ ≤ 536870912 := by decide) hcells hslots hH.1 fun H1 cA e1 z1 o1 hAr hNm => ?_
  have hcA : cA = E.2.1 t := by
    have h5 := (hK.2 t (by omega)).2
    rw [← h4.2] at h5
    have h6 : s.vm.findClass ("[" ++ (newarray.typeOf at_).toString) = some (E.2.1 t) := by cases at_ <;> cases hat <;> exact h5
    exact Option.some.inj (hNm.symm.trans h6)
  subst hcA
  refine kk H1 (x_HR_new hH (by rw [z1, hH.1]) (fun q hq => o1 q (by rw [← hH.1]; exact hq)) ?_) (fun q hq => o1 q (by omega))
  show H1[_]? = _
  rw [e1, h4.2]
  congr 2
  funext j
  rw [x_fv_new0]
  · cases at_ <;> cases hat <;> rfl
  · cases at_ <;> cases hat <;> decide
  · cases at_ <;> cases hat <;> decide
theorem x_newq_ok (hx : p.tables.exec = Jvm.exec) (hb : c.code = cc) (hK : x_KA E s) (hH : x_HR E G H) {own C : String} {index t : Nat} (ht4 : 4 ≤ t) (ht : t < 7) (hty : x_ety t = .object C) (hown : s.vm.findClass own = some m.cls) (hclink : (Cond.classLink own index C).before args s = true) (hover : (Cond.arrayOver (.object C)).before args s = true) {n : Int32} (hn : ¬ n < 0) (hN : n.toNatClampNeg ≤ 100000)
    (hcells : cells + 1 ≤ R.cells) (hslots : slots + n.toNatClampNeg ≤ R.slots) (hdg : decode cc pc = .ok (.anewarray index, 3))
    (kk : ∀ H1 : Heap, x_HR E (x_new G (.inr (t, n.toNatClampNeg))) H1 → (∀ q, q < E.2.2.1 → H1[q]? = H[q]?) → W p l e R s m args below meth c H1 locs (cells + 1) (slots + n.toNatClampNeg) Q (F0 m (pc + 3) ls (.ref (E.2.2.1 + G.1.length) :: rest))) : W p l e R s m args below meth c H locs cells slots Q (F0 m pc ls (.int n :: rest)) := by
  refine W.anew hx hb hown hclink hover rfl hdg rfl hn (by omega) hcells hslots fun cA kA comp f1 f2 f3 f4 => ?_
  have hra := (hK.2 t ht).2
  rw [hty] at hra
  obtain ⟨kA', comp', -, -, -, k4⟩ := hra
  have hcA : cA = E.2.1 t := Option.some.inj (f1.symm.trans k4)
  subst hcA
  rw [show F0 m pc ls (.int n :: rest) = F0 m pc ls (.int n :: rest) from rfl, hH.1]
  refine kk _ (x_HR_new hH (by rw [Array.size_push]) (fun q hq => by rw [Array.getElem?_push, if_neg (Nat.ne_of_lt hq)]) ?_) (fun q hq => by rw [Array.getElem?_push, if_neg (by have := hH.1; omega)])
  show (H.push _)[_]? = _
  rw [← hH.1, Array.getElem?_push_size, arrV_new]
  congr 2
  funext j
  rw [hty, x_fv_new0 (by intro h; cases h) (by intro h; cases h)]
  rfl
/-- System.arraycopy of ints or longs -/
def x_cpy (G : x_G) (k0 k1 t sp dp n : Nat) : x_G := if t = 1 then (G.1, G.2.1, (fun a => if a = k1 then va_cpy (G.2.2.1 k0) (G.2.2.1 k1) sp dp n else G.2.2.1 a), G.2.2.2) else (G.1, (fun a => if a = k1 then va_cpy (G.2.1 k0) (G.2.1 k1) sp dp n else G.2.1 a), G.2.2.1, G.2.2.2)
theorem x_cpy_ok (hx : p.tables.exec = Jvm.exec) (hb : c.code = cc) (hml : c.maxLocals = ls.size) (hK : x_KA E s) (hH : x_HR E G H) {own : String} {index k0 k1 t n0 n1 : Nat} (hown : s.vm.findClass own = some m.cls) (hlink : (Cond.methodLink own index arraycopyName).before args s = true) (hnat : (Cond.native arraycopyName).before args s = true) (hstat : (Cond.static arraycopyName).before args s = true) (hini : (Cond.initialized "java/lang/System").before args s = true)
    (ht : t < 2) (hk0 : G.1[k0]? = some (.inr (t, n0))) (hk1 : G.1[k1]? = some (.inr (t, n1))) {sp dp n : Int32} (h1 : ¬ sp < 0) (h2 : ¬ dp < 0) (h3 : ¬ n < 0) (h4 : sp.toNatClampNeg + n.toNatClampNeg ≤ n0) (h5 : dp.toNatClampNeg + n.toNatClampNeg ≤ n1)
    (hframes : 1 ≤ R.frames) (hlocals : 64 ≤ R.locals) (hdg : decode cc pc = .ok (.invokestatic index, 3))
    (kk : ∀ (H1 : Heap) (L : List Loc), (∀ z ∈ L, z.base = E.2.2.1 + k1) → x_HR E (x_cpy G k0 k1 t sp.toNatClampNeg dp.toNatClampNeg n.toNatClampNeg) H1 → (∀ q, q < E.2.2.1 → H1[q]? = H[q]?) → W p l e R s m args below meth c H1 (locs ++ L) cells slots Q (F0 m (pc + 3) ls [])) : W p l e R s m args below meth c H locs cells slots Q (F0 m pc ls [.int n, .int dp, .ref (E.2.2.1 + k1), .int sp, .ref (E.2.2.1 + k0)]) := by
  have nn : ∀ z : Int32, ¬ z < 0 → z.toInt = (z.toNatClampNeg : Int) := by
    intro z hz
    have hz0 : (0 : Int) ≤ z.toInt := by
      have := Int32.not_lt.mp hz
      simpa using Int32.le_iff_toInt_le.mp this
    show z.toInt = ((z.toInt.toNat : Nat) : Int)
    omega
  intro T hT X
  generalize hF0 : (fun j => x_cv E.2.2.1 E.2.2.2 (x_fv G k0 j (x_ety t))) = f0
  generalize hF1 : (fun j => x_cv E.2.2.1 E.2.2.2 (x_fv G k1 j (x_ety t))) = f1
  have hc0 : H[E.2.2.1 + k0]? = some (arrV (E.2.1 t) n0 f0) := by rw [← hF0]; exact hH.2 k0 _ hk0
  have hc1 : H[E.2.2.1 + k1]? = some (arrV (E.2.1 t) n1 f1) := by rw [← hF1]; exact hH.2 k1 _ hk1
  obtain ⟨-, q0, hq0, cm0, hkk0⟩ := (hK.2 t (by omega)).1 n0 f0
  obtain ⟨-, q1, hq1, cm1, hkk1⟩ := (hK.2 t (by omega)).1 n1 f1
  have hprim : refKind (x_ety t) = false := by
    match t, ht with
    | 0, _ => rfl
    | 1, _ => rfl
  obtain ⟨vm', X', step⟩ := X.arraycopy hx hown hlink hnat hstat hini (src := E.2.2.1 + k0) (dst := E.2.2.1 + k1) (cs := arrV (E.2.1 t) n0 f0) (cd := arrV (E.2.1 t) n1 f1) (srcPos := sp) (destPos := dp) (n := n) (by rw [hT]; exact hc0) (by rw [hT]; exact hc1)
    (fun _ h => by cases h) (fun _ h => by cases h) (fun h => by cases h) (fun h => by cases h) hq0 hq1 hkk0 hkk1 (by simp [hprim]) h1 h2 h3
    (by rw [nn sp h1, nn n h3, arrV_size]; omega)
    (by rw [nn dp h2, nn n h3, arrV_size]; omega)
    (fun vm₁ _ i hi => by
      have e : (arrV (E.2.1 t) n0 f0).slots.getD (sp.toNatClampNeg + i) .null = f0 (sp.toNatClampNeg + i) := by
        rw [Array.getD_eq_getD_getElem?, arrV_read _ _ (by omega)]
        rfl
      rw [e, ← hF0]
      match t, ht with
      | 0, _ => exact ⟨rfl, trivial⟩
      | 1, _ => exact ⟨rfl, trivial⟩)
    (g := F0 m pc ls [.int n, .int dp, .ref (E.2.2.1 + k1), .int sp, .ref (E.2.2.1 + k0)]) rfl (by rw [hml]) (rest := []) rfl (by rw [hb]; exact hdg) hframes (by
      have : nativeFrameWords "java/lang/System" "arraycopy" 5 + 11 ≤ 64 := by decide
      show 2 * 0 + _ + _ ≤ _
      simp only [List.map_nil, List.sum_nil]
      omega)
  have e1 : copied (arrV (E.2.1 t) n0 f0) (arrV (E.2.1 t) n1 f1) sp dp n = arrV (E.2.1 t) n1 (va_cpy f0 f1 sp.toNatClampNeg dp.toNatClampNeg n.toNatClampNeg) := va_copied (fun z => z) (E.2.1 t) (E.2.1 t) f0 f1 h4
  rw [e1] at X' step
  have hl : E.2.2.1 + k1 < H.size := (Array.getElem?_eq_some_iff.mp hc1).1
  generalize hcell : arrV (E.2.1 t) n1 (va_cpy f0 f1 sp.toNatClampNeg dp.toNatClampNeg n.toNatClampNeg) = cell at X' step
  have hheap : ((T.setVm vm').setCell (E.2.2.1 + k1) cell).heap = H.setIfInBounds (E.2.2.1 + k1) cell := by rw [← hT]; rfl
  have oq : ∀ q : Nat, q ≠ E.2.2.1 + k1 → (H.setIfInBounds (E.2.2.1 + k1) cell)[q]? = H[q]? := fun q hq => by simp [Array.getElem?_setIfInBounds, Ne.symm hq]
  have hHR : x_HR E (x_cpy G k0 k1 t sp.toNatClampNeg dp.toNatClampNeg n.toNatClampNeg) (H.setIfInBounds (E.2.2.1 + k1) cell) := by
    have hG1 : (x_cpy G k0 k1 t sp.toNatClampNeg dp.toNatClampNeg n.toNatClampNeg).1 = G.1 := by unfold x_cpy; split <;> rfl
    refine ⟨by rw [hG1]; simpa using hH.1, fun a sh hs => ?_⟩
    rw [hG1] at hs
    by_cases hak : a = k1
    · subst hak
      rw [hk1] at hs
      cases hs
      show (H.setIfInBounds (E.2.2.1 + a) cell)[E.2.2.1 + a]? = _
      rw [Array.getElem?_setIfInBounds, if_pos rfl, if_pos hl, ← hcell]
      congr 2
      funext j
      rw [← hF0, ← hF1]
      obtain rfl | rfl : t = 0 ∨ t = 1 := by omega
      · have h9 : (x_cpy G k0 a 0 sp.toNatClampNeg dp.toNatClampNeg n.toNatClampNeg).2.1 a = va_cpy (G.2.1 k0) (G.2.1 a) sp.toNatClampNeg dp.toNatClampNeg n.toNatClampNeg := by simp [x_cpy]
        refine Eq.symm ?_
        show x_cv _ _ (.int ((x_cpy G k0 a 0 sp.toNatClampNeg dp.toNatClampNeg n.toNatClampNeg).2.1 a j)) = _
        rw [h9]
        unfold va_cpy
        split <;> rfl
      · have h9 : (x_cpy G k0 a 1 sp.toNatClampNeg dp.toNatClampNeg n.toNatClampNeg).2.2.1 a = va_cpy (G.2.2.1 k0) (G.2.2.1 a) sp.toNatClampNeg dp.toNatClampNeg n.toNatClampNeg := by simp [x_cpy]
        refine Eq.symm ?_
        show x_cv _ _ (.long ((x_cpy G k0 a 1 sp.toNatClampNeg dp.toNatClampNeg n.toNatClampNeg).2.2.1 a j)) = _
        rw [h9]
        unfold va_cpy
        split <;> rfl
    · refine x_at_kept (hH.2 a sh hs) (oq _ (by omega)) (fun j' ty' => ?_)
      unfold x_cpy
      split <;> cases ty' <;> simp [x_fv, hak]
  obtain ⟨t', a1, b1⟩ := kk _ _ (fun z hz => by
    obtain ⟨w, -, hw⟩ := List.mem_map.mp hz
    rw [← hw]) hHR (fun q hq => oq q (by omega)) _ hheap X'
  exact ⟨t', step t' a1, b1⟩
end XARR
end
section
/-! ===== the shadow machine: the whole ===== -/
def x_inf (mi : Nat) : x_Inf := (x_infs[mi]?).getD (yL_law, code, 4, some .boolean, (0, 0, 0, 0), true, 99)
def x_y (mi : Nat) : MethodName := (x_inf mi).1
def x_b (mi : Nat) : ByteArray := (x_inf mi).2.1
def x_ml (mi : Nat) : Nat := (x_inf mi).2.2.1
def x_rt (mi : Nat) : Option FieldType := (x_inf mi).2.2.2.1
def x_pl (mi : Nat) : Nat × Nat × Nat × Nat := (x_inf mi).2.2.2.2.1
def x_stat (mi : Nat) : Bool := (x_inf mi).2.2.2.2.2.1
def x_mci (mi : Nat) : Nat := (x_inf mi).2.2.2.2.2.2
def x_tab (mi : Nat) : List (Nat × x_Row) := (x_tabs[mi]?).getD []
def x_row (mi pc : Nat) : Option x_Row := (x_tab mi).lookup pc
/-- the script: its length and its numbers -/
abbrev x_Ext : Type := Nat × (Nat → Int32)
/-- fields of things outside -/
def x_xf (b i : Nat) : Option Value := match b with
  | 0 => if i < 27 then some (.long (x_kwl.getD i 0)) else none
  | 1 => if i = 28 then some (.retAddr 29) else none
  | _ => if i = 28 then some (.int 0) else none
def x_xn : Nat → String × String × String
  | 0 => ("HornBridge$Keyword", "letters", "J")
  | 1 => ("java/lang/String", "value", "[B")
  | _ => ("java/lang/String", "coder", "B")
/-- arrays outside -/
def x_xar (X : x_Ext) (i : Nat) : Option (FieldType × Nat × (Nat → Value)) :=
  if i = 27 then some (.object "HornBridge$Keyword", 27, fun j => .retAddr j)
  else if i = 29 then some (.byte, x_keys.length, fun j => .int (x_keys.getD j 0))
  else if i = 30 then some (.int, X.1, fun j => .int (X.2 j)) else none
def x_ldA (p : Nat → Bool) (G : x_G) (k : Nat) (i : Int32) : Option Value := match G.1[k]? with
  | some (.inr (t, n)) => if p t = true ∧ ¬ (i < 0 ∨ n ≤ i.toNatClampNeg) then some (x_fv G k i.toNatClampNeg (x_ety t)) else none
  | _ => none
def x_ldX (ok : FieldType → Bool) (X : x_Ext) (e : Nat) (i : Int32) : Option Value := match x_xar X e with
  | some (ty, n, f) => if ok ty = true ∧ ¬ (i < 0 ∨ n ≤ i.toNatClampNeg) then some (f i.toNatClampNeg) else none
  | none => none
def x_isObj : FieldType → Bool | .object _ => true | _ => false
def x_stA (G : x_G) (k : Nat) (i : Int32) (t : Nat) (v : Value) : Option x_G := match G.1[k]? with
  | some (.inr (t', n)) => if t' = t ∧ ¬ (i < 0 ∨ n ≤ i.toNatClampNeg) then some (x_put G k i.toNatClampNeg (x_ety t) v) else none
  | _ => none
def x_aty (G : x_G) (k : Nat) : Nat := match G.1[k]? with | some (.inr (t, _)) => t | _ => 99
def x_heap (X : x_Ext) (a b : Nat) (z : Int) : Instr → List Value → x_G → Option (List Value × x_G)
  | .ldc _, st, G => if a = 0 then some (.int (Int32.ofInt z) :: st, G) else some (.retAddr 28 :: st, G)
  | .ldc_w _, st, G => some (.int (Int32.ofInt z) :: st, G)
  | .ldc2_w _, st, G => some (.long (Int64.ofInt z) :: st, G)
  | .getstatic _, st, G => match x_sts[a]? with | some s => some (s.2.2.2.1 :: st, G) | none => none
  | .getfield _, .ref k :: r, G => if G.1[k]? = some (.inl a) ∧ b < (x_fty a).length then some (x_fv G k b ((x_fty a).getD b .int) :: r, G) else none
  | .getfield _, .retAddr i :: r, G => if a = 200 then (match x_xf b i with | some v => some (v :: r, G) | none => none) else none
  | .putfield _, v :: .ref k :: r, G => if G.1[k]? = some (.inl a) ∧ b < (x_fty a).length ∧ x_fit ((x_fty a).getD b .int) v = true then some (r, x_put G k b ((x_fty a).getD b .int) v) else none
  | .arraylength, .ref k :: r, G => match G.1[k]? with | some (.inr (t, n)) => if t < 7 then some (.int (Int32.ofNat n) :: r, G) else none | _ => none
  | .arraylength, .retAddr i :: r, G => match x_xar X i with | some q => some (.int (Int32.ofNat q.2.1) :: r, G) | none => none
  | .iaload, .int i :: .ref k :: r, G => match x_ldA (fun t => t == 0) G k i with | some v => some (v :: r, G) | none => none
  | .laload, .int i :: .ref k :: r, G => match x_ldA (fun t => t == 1) G k i with | some v => some (v :: r, G) | none => none
  | .baload, .int i :: .ref k :: r, G => match x_ldA (fun t => t == 2 || t == 3) G k i with | some v => some (v :: r, G) | none => none
  | .aaload, .int i :: .ref k :: r, G => match x_ldA (fun t => decide (4 ≤ t) && decide (t < 7)) G k i with | some v => some (v :: r, G) | none => none
  | .iaload, .int i :: .retAddr e :: r, G => match x_ldX (fun t => t == .int) X e i with | some v => some (v :: r, G) | none => none
  | .baload, .int i :: .retAddr e :: r, G => match x_ldX (fun t => t == .byte) X e i with | some v => some (v :: r, G) | none => none
  | .aaload, .int i :: .retAddr e :: r, G => match x_ldX x_isObj X e i with | some v => some (v :: r, G) | none => none
  | .iastore, .int x :: .int i :: .ref k :: r, G => match x_stA G k i 0 (.int x) with | some G' => some (r, G') | none => none
  | .lastore, .long x :: .int i :: .ref k :: r, G => match x_stA G k i 1 (.long x) with | some G' => some (r, G') | none => none
  | .bastore, .int x :: .int i :: .ref k :: r, G => if x_aty G k = 2 then (match x_stA G k i 2 (narrow .byte (.int x)) with | some G' => some (r, G') | none => none) else match x_stA G k i 3 (narrow .boolean (.int x)) with | some G' => some (r, G') | none => none
  | .aastore, .null :: .int i :: .ref k :: r, G => if 4 ≤ x_aty G k ∧ x_aty G k < 7 then (match x_stA G k i (x_aty G k) .null with | some G' => some (r, G') | none => none) else none
  | .aastore, .ref k2 :: .int i :: .ref k :: r, G => if 4 ≤ x_aty G k ∧ x_aty G k < 7 ∧ G.1[k2]? = some (.inl (x_eci (x_aty G k))) then (match x_stA G k i (x_aty G k) (.ref k2) with | some G' => some (r, G') | none => none) else none
  | .new _, st, G => if a < 12 then some (.ref G.1.length :: st, x_new G (.inl a)) else none
  | .newarray at_, .int n :: r, G => match x_atn at_ with | some t => if ¬ n < 0 ∧ n.toNatClampNeg ≤ 100000 then some (.ref G.1.length :: r, x_new G (.inr (t, n.toNatClampNeg))) else none | none => none
  | .anewarray _, .int n :: r, G => if 4 ≤ a ∧ a < 7 ∧ ¬ n < 0 ∧ n.toNatClampNeg ≤ 100000 then some (.ref G.1.length :: r, x_new G (.inr (a, n.toNatClampNeg))) else none
  | _, _, _ => none
def x_cat : Instr → Nat
  | .iload_n _ | .iload _ | .lload_n _ | .lload _ | .aload_n _ | .aload _ | .istore_n _ | .istore _ | .astore_n _ | .astore _ | .lstore_n _ | .lstore _ | .iinc _ _ => 1
  | .ifCond _ _ | .if_icmp _ _ | .if_acmp _ _ | .goto _ | .ifnull _ | .ifnonnull _ | .tableswitch _ _ _ _ | .lookupswitch _ _ => 2
  | .getfield _ | .putfield _ | .getstatic _ | .new _ | .newarray _ | .anewarray _ | .arraylength | .iaload | .laload | .baload | .aaload | .iastore | .lastore | .bastore | .aastore | .ldc _ | .ldc_w _ | .ldc2_w _ => 3
  | .invokevirtual _ | .invokespecial _ | .invokestatic _ => 4
  | .ireturn | .lreturn | .return_ => 5
  | _ => 0
/-- a result that fits the method's type -/
def x_ret (rt : Option FieldType) : Instr → List Value → Option (Option Value)
  | .ireturn, [.int x] => match rt with
    | some .int => some (some (.int x))
    | some .boolean => if x = 0 ∨ x = 1 then some (some (.int x)) else none
    | some .byte => if narrow .byte (.int x) = .int x then some (some (.int x)) else none
    | some .char => if narrow .char (.int x) = .int x then some (some (.int x)) else none
    | _ => none
  | .lreturn, [.long x] => if rt = some .long then some (some (.long x)) else none
  | .return_, [] => if rt = none then some none else none
  | _, _ => none
def x_words (as : List Value) : Nat := (as.map fun v => v.category).sum
/-- the receiver is an object of the method's class -/
def x_rcv (mi : Nat) (G : x_G) : List Value → Bool
  | .ref k :: _ => match G.1[k]? with | some (.inl ci) => ci == x_mci mi && decide (x_mci mi < 12) | _ => false
  | .retAddr i :: _ => i == 28 && x_mci mi == 100
  | _ => false
def x_mm (a : Nat) (x y : Int32) : Int32 := if a = 1002 then (if x < y then y else x) else (if y < x then y else x)
def x_exec (X : x_Ext) : Nat → Nat → Nat → Nat → x_Lo → List Value → x_G → Option (Option Value × x_G)
  | 0, _, _, _, _, _, _ => none
  | n + 1, d, mi, pc, lo, st, G => match x_row mi pc with
    | none => none
    | some (ins, len, a, b, _, z) => match x_cat ins with
      | 0 => match x_alu ins st with
        | some st' => x_exec X n d mi (pc + len) lo st' G
        | none => none
      | 1 => match x_loc (x_ml mi) ins lo st with
        | some (lo', st') => x_exec X n d mi (pc + len) lo' st' G
        | none => none
      | 2 => match x_br a pc ins st with
        | some (pc', st') => x_exec X n d mi pc' lo st' G
        | none => none
      | 3 => match x_heap X a b z ins st G with
        | some (st', G') => x_exec X n d mi (pc + len) lo st' G'
        | none => none
      | 4 => if a = 1000 then (match st with
          | .ref k :: r => if 1 ≤ d ∧ x_words r ≤ 8 then x_exec X n d mi (pc + 3) lo r G else none
          | _ => none)
        else if a = 1001 then (match st with
          | [.int n', .int dp, .ref k1, .int sp, .ref k0] => match G.1[k0]?, G.1[k1]? with
            | some (.inr (t0, n0)), some (.inr (t1, n1)) => if t0 = t1 ∧ t0 < 2 ∧ 1 ≤ d ∧ ¬ sp < 0 ∧ ¬ dp < 0 ∧ ¬ n' < 0 ∧ sp.toNatClampNeg + n'.toNatClampNeg ≤ n0 ∧ dp.toNatClampNeg + n'.toNatClampNeg ≤ n1 then x_exec X n d mi (pc + 3) lo [] (x_cpy G k0 k1 t0 sp.toNatClampNeg dp.toNatClampNeg n'.toNatClampNeg) else none
            | _, _ => none
          | _ => none)
        else if a = 1002 ∨ a = 1003 then (match st with
          | .int y :: .int x :: r => if 1 ≤ d ∧ x_words r ≤ 8 then x_exec X n d mi (pc + 3) lo (.int (x_mm a x y) :: r) G else none
          | _ => none)
        else if 1 ≤ d ∧ b ≤ st.length ∧ x_words (st.drop b) ≤ 8 ∧ x_words (st.take b) ≤ x_ml a ∧ (x_stat a = true ∨ x_rcv a G (st.take b).reverse = true) then
          match x_exec X n (d - 1) a 0 (lv_args 0 (st.take b).reverse) [] G with
          | some (v, G') => x_exec X n d mi (pc + 3) lo (v.toList ++ st.drop b) G'
          | none => none
        else none
      | _ => match x_ret (x_rt mi) ins st with
        | some v => some (v, G)
        | none => none
/-! what must be so of the tables: a row says what the bytes say, and its words are in the tables -/
def x_chkF (y0 : MethodName) (idx a b q : Nat) : Bool := match vwCl[a]?, lw_tbl[q]? with
  | some (_, T, N), some (.fieldLink own i r n d) => decide (b < N) && decide (own = y0.cls) && decide (i = idx) && decide ((r, n, d) = ((T b).1, (T b).2.1, (T b).2.2.1))
  | some (_, T, N), some (.fieldLinkNest own i r n d _) => decide (b < N) && decide (own = y0.cls) && decide (i = idx) && decide ((r, n, d) = ((T b).1, (T b).2.1, (T b).2.2.1))
  | _, _ => false
def x_chkP (y0 : MethodName) (idx a b q : Nat) : Bool := match vwCl[a]?, lw_tbl[q]? with
  | some (_, T, N), some (.fieldLink own i r n d) => decide (b < N) && decide (own = y0.cls) && decide (i = idx) && decide ((r, n, d) = ((T b).1, (T b).2.1, (T b).2.2.1)) && (!(T b).2.2.2 || (decide (y0.name = "<init>") && decide ((T b).1 = own)))
  | some (_, T, N), some (.fieldLinkNest own i r n d _) => decide (b < N) && decide (own = y0.cls) && decide (i = idx) && decide ((r, n, d) = ((T b).1, (T b).2.1, (T b).2.2.1)) && !(T b).2.2.2
  | _, _ => false
def x_chkX (y0 : MethodName) (idx b q : Nat) : Bool := match lw_tbl[q]? with
  | some (.fieldLink own i r n d) => decide (own = y0.cls) && decide (i = idx) && decide ((r, n, d) = x_xn b)
  | some (.fieldLinkNest own i r n d _) => decide (own = y0.cls) && decide (i = idx) && decide ((r, n, d) = x_xn b)
  | _ => false
def x_chkS (y0 : MethodName) (idx a q : Nat) : Bool := match x_sts[a]?, lw_tbl[q]? with
  | some s, some (.fieldLink own i r n d) => decide (own = y0.cls) && decide (i = idx) && decide ((r, n, d) = (s.1, s.2.1, s.2.2.1))
  | _, _ => false
def x_chkN (y0 : MethodName) (idx a q : Nat) : Bool := match vwCl[a]?, lw_tbl[q]? with
  | some (C, _, _), some (.classLink own i C') => decide (own = y0.cls) && decide (i = idx) && decide (C = C')
  | _, _ => false
def x_chkQ (y0 : MethodName) (idx a q : Nat) : Bool := match lw_tbl[q]? with
  | some (.classLink own i C') => decide (own = y0.cls) && decide (i = idx) && decide (x_ety a = .object C')
  | _ => false
def x_chkK (y0 : MethodName) (idx q : Nat) (z : Int) : Bool := match lw_tbl[q]? with
  | some (.constant own i v) => decide (own = y0.cls) && decide (i = idx) && decide (v = Int32.ofInt z)
  | _ => false
def x_chkL (y0 : MethodName) (idx q : Nat) (z : Int) : Bool := match lw_tbl[q]? with
  | some (.constantLong own i v) => decide (own = y0.cls) && decide (i = idx) && decide (v = Int64.ofInt z)
  | _ => false
/-- a call: of what kind it is, its link, how many arguments -/
def x_chkC (y0 : MethodName) (idx a b q : Nat) (kind : Nat) : Bool :=
  if a = 1000 then kind == 1 && (match lw_tbl[q]? with
    | some (.methodLink own i y) => decide (own = y0.cls) && decide (i = idx) && decide (y = Lib.objectInit)
    | _ => false)
  else if a = 1001 then kind == 2 && (match lw_tbl[q]? with
    | some (.methodLink own i y) => decide (own = y0.cls) && decide (i = idx) && decide (y = arraycopyName)
    | _ => false)
  else if a = 1002 ∨ a = 1003 then kind == 2 && (match lw_tbl[q]? with
    | some (.methodLink own i y) => decide (own = y0.cls) && decide (i = idx) && decide (y = if a = 1002 then Lib.Math.max.name else Lib.Math.min.name)
    | _ => false)
  else decide (a < n_L_law) && (match lw_tbl[q]? with
    | some (.methodLink own i y) => decide (own = y0.cls) && decide (i = idx) && decide (y = x_y a)
    | some (.methodLinkNest own i y _) => decide (own = y0.cls) && decide (i = idx) && decide (y = x_y a)
    | _ => false) && (match kind with
    | 0 => !x_stat a && decide ((parseMethodDescriptor (x_y a).desc).map (fun d => d.parameters.length + 1) = some b) && decide ((x_y a).name ≠ "<init>")
    | 1 => !x_stat a && decide ((parseMethodDescriptor (x_y a).desc).map (fun d => d.parameters.length + 1) = some b) && decide ((x_y a).name = "<init>") && decide (x_rt a = none)
    | _ => x_stat a && decide ((parseMethodDescriptor (x_y a).desc).map (fun d => d.parameters.length) = some b))
def x_chkW (y0 : MethodName) (a b q : Nat) (z : Int) : Instr → Bool
  | .getfield i => if a = 200 then x_chkX y0 i b q else x_chkF y0 i a b q
  | .putfield i => x_chkP y0 i a b q
  | .getstatic i => x_chkS y0 i a q
  | .new i => x_chkN y0 i a q
  | .anewarray i => x_chkQ y0 i a q
  | .ldc i => if a = 0 then x_chkK y0 i q z else decide (y0.cls = RX12) && decide (i = x_keyix)
  | .ldc_w i => x_chkK y0 i q z
  | .ldc2_w i => x_chkL y0 i q z
  | .invokevirtual i => x_chkC y0 i a b q 0
  | .invokespecial i => x_chkC y0 i a b q 1
  | .invokestatic i => x_chkC y0 i a b q 2
  | _ => true
def x_chkO (pc a len : Nat) (ins : Instr) : Bool := if x_cat ins = 2 then (match x_off ins with | some o => decide (len = 3) && decide ((pc : Int) + o = (a : Int)) | none => true) else decide (len = x_len ins)
def x_chk (y0 : MethodName) (b0 : ByteArray) (pc : Nat) : x_Row → Bool
  | (ins, len, a, b, q, z) => decide (decode b0 pc = .ok (ins, len)) && x_chkO pc a len ins && x_chkW y0 a b q z ins
/-- what must be so of a method -/
def x_chkM (mi : Nat) : Bool := plainName (x_y mi).cls && decide ((x_y mi).cls ≠ "java/lang/invoke/MethodHandle" ∧ (x_y mi).cls ≠ "java/lang/invoke/VarHandle") && decide (x_ml mi ≤ 20) && decide (lw_tbl[(x_pl mi).2.2.2]? = some (.initialized (x_y mi).cls)) &&
  (if x_stat mi then decide (lw_tbl[(x_pl mi).2.1]? = some (.static (x_y mi))) else decide (lw_tbl[(x_pl mi).2.1]? = some (.instanceMethod (x_y mi))) && (decide ((x_y mi).name = "<init>") || decide (lw_tbl[(x_pl mi).2.2.1]? = some (.selects (x_y mi).cls (x_y mi) (x_y mi))))) &&
  (decide (x_mci mi = 99) || (decide (x_mci mi = 100) && decide ((x_y mi).cls = "java/lang/String")) || decide ((vwCl[x_mci mi]?).map (fun q => q.1) = some (x_y mi).cls))
def x_okM (mi : Nat) : Prop := x_chkM mi = true ∧ lw_tbl[(x_pl mi).1]? = some (.code (x_y mi) (x_b mi) (x_ml mi) (x_rt mi))
def x_chkT (y0 : MethodName) (b0 : ByteArray) (l : List (Nat × x_Row)) : Bool := l.all (fun r => x_chk y0 b0 r.1 r.2)
end
section
/-! ===== the heap's instructions are what the machine does ===== -/
def x_sz : Nat ⊕ (Nat × Nat) → Nat | .inl ci => (x_fty ci).length | .inr (_, n) => n
def x_nS (G : x_G) : Nat := (G.1.map x_sz).sum
theorem x_nS_new (G : x_G) (sh : Nat ⊕ (Nat × Nat)) : x_nS (x_new G sh) = x_nS G + x_sz sh := by simp [x_nS, x_new]
theorem x_nC_new (G : x_G) (sh : Nat ⊕ (Nat × Nat)) : (x_new G sh).1.length = G.1.length + 1 := by simp [x_new]
theorem x_nS_eq {G G' : x_G} (h : G'.1 = G.1) : x_nS G' = x_nS G := by simp [x_nS, h]
def x_Ao (E : x_Ad) : Nat → Prop := fun q => E.2.2.1 ≤ q
def x_ngw : Cond → Bool | .fieldLinkNest .. => true | .methodLinkNest .. => true | .arrayOver (.object _) => true | _ => false
/-- what is known of the things outside, and of the words that a callee must be told -/
def x_XF (E : x_Ad) (X : x_Ext) (U : State) : Prop :=
  (∀ w ∈ lw_tbl, x_ngw w = true → va_Nw w U) ∧
  (∀ (a : Nat) (s : String × String × String × Value × Nat × Nat), x_sts[a]? = some s → va_Z s.1 s.2.1 s.2.2.1 (x_cv E.2.2.1 E.2.2.2 s.2.2.2.1) (x_Ao E) U U.heap) ∧
  (∀ (b i : Nat) (v : Value), x_xf b i = some v → ∃ q : Nat, E.2.2.2 i = some q ∧ va_OF (x_xn b).1 (x_xn b).2.1 (x_xn b).2.2 (x_cv E.2.2.1 E.2.2.2 v) q (x_Ao E) U U.heap) ∧
  (∀ (i : Nat) (ty : FieldType) (n : Nat) (f : Nat → Value), x_xar X i = some (ty, n, f) → ∃ q : Nat, E.2.2.2 i = some q ∧ va_T ty q n (fun j => x_cv E.2.2.1 E.2.2.2 (f j)) (x_Ao E) U U.heap) ∧
  (∃ q : Nat, E.2.2.2 28 = some q ∧ vk_R RX12 x_keyix x_keytx q U ∧ va_O "java/lang/String" q (x_Ao E) U U.heap) ∧ x_XA E.2.2.1 E.2.2.2
theorem x_ng_warm {w : Cond} {s U : State} (hn : x_ngw w = true) (hW : s.WarmedH U.vm) (h : va_Nw w s) : va_Nw w U := by
  unfold x_ngw at hn
  split at hn
  · exact va_Nw.warmF hW h
  · exact va_Nw.warmM hW h
  · exact va_AO.moved hW.alike h
  · cases hn
theorem x_ng_same {w : Cond} {u U : State} (hn : x_ngw w = true) (hv : u.vm = U.vm) (h : va_Nw w u) : va_Nw w U := by
  unfold x_ngw at hn
  split at hn
  · exact va_Nw.same rfl hv h
  · exact va_Nw.same rfl hv h
  · exact va_AO.moved (by rw [hv]; exact Vm.Alike.refl _) h
  · cases hn
theorem x_ng_use {w : Cond} {A : Array Value} {U : State} (hn : x_ngw w = true) (h : va_Nw w U) : w.before A U = true := by
  unfold x_ngw at hn
  split at hn
  · exact va_Nw.use rfl h
  · exact va_Nw.use rfl h
  · exact va_AO.use h
  · cases hn
theorem x_XF_moved {E : x_Ad} {X : x_Ext} {s U : State} {H : Heap} {locs : List Loc} (h : x_XF E X s) (hU : U.heap = H) (hW : s.WarmedH U.vm) (hS : va_S (x_Ao E) s.heap H locs) : x_XF E X U := by
  obtain ⟨h1, h2, h3, h4, ⟨q, h5, h6, h7⟩, h8⟩ := h
  subst hU
  refine ⟨fun w hw hn => x_ng_warm hn hW (h1 w hw hn), fun a st hs => (va_Z.moved hW.alike ((h2 a st hs).kept hS.2.1)), fun b i v hv => ?_, fun i ty n f hf => ?_, ⟨q, h5, h6.warm hW, va_O.moved hW.alike (h7.kept hS.2.1)⟩, h8⟩
  · obtain ⟨q, g1, g2⟩ := h3 b i v hv
    exact ⟨q, g1, va_OF.moved hW.alike (g2.kept hS.2.1)⟩
  · obtain ⟨q, g1, g2⟩ := h4 i ty n f hf
    exact ⟨q, g1, va_T.moved hW.alike (g2.kept hS.2.1)⟩
theorem x_XF_same {E : x_Ad} {X : x_Ext} {u U : State} (h : x_XF E X u) (hv : U.vm = u.vm) (hh : U.heap = u.heap) : x_XF E X U := by
  obtain ⟨h1, h2, h3, h4, ⟨q, h5, h6, h7⟩, h8⟩ := h
  have hA : u.vm.Alike U.vm := by rw [hv]; exact Vm.Alike.refl _
  refine ⟨fun w hw hn => x_ng_same hn hv.symm (h1 w hw hn), fun a st hs => ?_, fun b i v hv => ?_, fun i ty n f hf => ?_, ⟨q, h5, h6.same hv, ?_⟩, h8⟩
  · rw [hh]; exact va_Z.moved hA (h2 a st hs)
  · obtain ⟨q, g1, g2⟩ := h3 b i v hv
    exact ⟨q, g1, by rw [hh]; exact va_OF.moved hA g2⟩
  · obtain ⟨q, g1, g2⟩ := h4 i ty n f hf
    exact ⟨q, g1, by rw [hh]; exact va_T.moved hA g2⟩
  · rw [hh]; exact va_O.moved hA h7
def x_Cx (p : Program) (s : State) (m : MethodId) (args : Array Value) (meth : Method) (c : Code) (mi : Nat) : Prop := p.tables.exec = Jvm.exec ∧ c.code = x_b mi ∧ c.maxLocals = x_ml mi ∧ s.vm.findClass (x_y mi).cls = some m.cls ∧ (∀ w ∈ x_gw, w.before args s = true) ∧ ((x_y mi).name = "<init>" → meth.name = "<init>")
theorem x_wd {args : Array Value} {s : State} (hts : ∀ w ∈ x_gw, w.before args s = true) {q : Nat} {w : Cond} (h : lw_tbl[q]? = some w) (hg : goodWord w = true) : w.before args s = true := hts w (List.mem_filter.mpr ⟨List.mem_of_getElem? h, hg⟩)
theorem x_ng {E : x_Ad} {X : x_Ext} {args : Array Value} {s : State} (h : x_XF E X s) {q : Nat} {w : Cond} (hw : lw_tbl[q]? = some w) (hn : x_ngw w = true) : w.before args s = true := by
  exact x_ng_use hn (h.1 w (List.mem_of_getElem? hw) hn)
theorem x_S_step {E : x_Ad} {H0 H H1 : Heap} {locs L : List Loc} (h : va_S (x_Ao E) H0 H locs) (hz : H.size ≤ H1.size) (hq : ∀ q, q < E.2.2.1 → H1[q]? = H[q]?) (hL : ∀ z ∈ L, E.2.2.1 ≤ z.base) : va_S (x_Ao E) H0 H1 (locs ++ L) :=
  ⟨Nat.le_trans h.1 hz, fun q h1 h2 => (hq q (Nat.not_le.mp h2)).trans (h.2.1 q h1 h2), fun z hz => (List.mem_append.mp hz).elim (h.2.2 z) (hL z)⟩
theorem x_fd {own own' r n d r' n' d' : String} {i i' : Nat} {Y : Bool} (h : (decide (own = own') && decide (i = i') && decide ((r, n, d) = (r', n', d'))) = true) : own = own' ∧ i = i' ∧ r = r' ∧ n = n' ∧ d = d' := by
  simp only [Bool.and_eq_true, decide_eq_true_eq, Prod.mk.injEq] at h
  exact ⟨h.1.1, h.1.2, h.2.1, h.2.2.1, h.2.2.2⟩
section XHOK
variable {p : Program} {l : Launch} {e : Env} {R : Room} {s : State} {m : MethodId} {args : Array Value} {below : List Frame} {meth : Method} {c : Code} {H : Heap} {locs : List Loc} {cells slots : Nat} {Q : State → Prop}
variable {pc : Nat} {ls : Array Slot} {E : x_Ad} {G : x_G} {X : x_Ext} {mi : Nat}
theorem x_chkF_spec (hts : ∀ w ∈ x_gw, w.before args s = true) (hF : x_XF E X s) {idx a b q : Nat} (h : x_chkF (x_y mi) idx a b q = true) : ∃ C T N, vwCl[a]? = some (C, T, N) ∧ b < N ∧ ((Cond.fieldLink (x_y mi).cls idx (T b).1 (T b).2.1 (T b).2.2.1).before args s = true ∨ ∃ host, (Cond.fieldLinkNest (x_y mi).cls idx (T b).1 (T b).2.1 (T b).2.2.1 host).before args s = true) := by
  unfold x_chkF at h
  split at h
  next C T N own i r n d e1 e2 =>
    simp only [Bool.and_eq_true, decide_eq_true_eq, Prod.mk.injEq] at h
    obtain ⟨⟨⟨h1, rfl⟩, rfl⟩, rfl, rfl, rfl⟩ := h
    exact ⟨C, T, N, e1, h1, Or.inl (x_wd hts e2 rfl)⟩
  next C T N own i r n d ho e1 e2 =>
    simp only [Bool.and_eq_true, decide_eq_true_eq, Prod.mk.injEq] at h
    obtain ⟨⟨⟨h1, rfl⟩, rfl⟩, rfl, rfl, rfl⟩ := h
    exact ⟨C, T, N, e1, h1, Or.inr ⟨ho, x_ng hF e2 rfl⟩⟩
  next => cases h
theorem x_chkP_spec (hts : ∀ w ∈ x_gw, w.before args s = true) (hF : x_XF E X s) (hin : (x_y mi).name = "<init>" → meth.name = "<init>") {idx a b q : Nat} (h : x_chkP (x_y mi) idx a b q = true) : ∃ C T N, vwCl[a]? = some (C, T, N) ∧ b < N ∧ (((T b).2.2.2 = false ∧ ((Cond.fieldLink (x_y mi).cls idx (T b).1 (T b).2.1 (T b).2.2.1).before args s = true ∨ ∃ host, (Cond.fieldLinkNest (x_y mi).cls idx (T b).1 (T b).2.1 (T b).2.2.1 host).before args s = true)) ∨ ((T b).2.2.2 = true ∧ meth.name = "<init>" ∧ (T b).1 = (x_y mi).cls ∧ (Cond.fieldLink (x_y mi).cls idx (T b).1 (T b).2.1 (T b).2.2.1).before args s = true)) := by
  unfold x_chkP at h
  split at h
  next C T N own i r n d e1 e2 =>
    simp only [Bool.and_eq_true, Bool.or_eq_true, Bool.not_eq_true', decide_eq_true_eq, Prod.mk.injEq] at h
    obtain ⟨⟨⟨⟨h1, rfl⟩, rfl⟩, rfl, rfl, rfl⟩, h5⟩ := h
    refine ⟨C, T, N, e1, h1, ?_⟩
    cases hb : (T b).2.2.2 with
    | false => exact Or.inl ⟨rfl, Or.inl (x_wd hts e2 rfl)⟩
    | true =>
      rw [hb] at h5
      rcases h5 with h5 | h5
      · cases h5
      · exact Or.inr ⟨rfl, hin h5.1, h5.2, x_wd hts e2 rfl⟩
  next C T N own i r n d ho e1 e2 =>
    simp only [Bool.and_eq_true, Bool.not_eq_true', decide_eq_true_eq, Prod.mk.injEq] at h
    obtain ⟨⟨⟨⟨h1, rfl⟩, rfl⟩, rfl, rfl, rfl⟩, h5⟩ := h
    exact ⟨C, T, N, e1, h1, Or.inl ⟨h5, Or.inr ⟨ho, x_ng hF e2 rfl⟩⟩⟩
  next => cases h
theorem x_ldA_spec {pr : Nat → Bool} {k : Nat} {i : Int32} {v : Value} (h : x_ldA pr G k i = some v) : ∃ t n, G.1[k]? = some (.inr (t, n)) ∧ pr t = true ∧ vp_in i n ∧ v = x_fv G k i.toNatClampNeg (x_ety t) := by
  unfold x_ldA at h
  split at h
  next t n hk =>
    split at h
    next hc => cases h; exact ⟨t, n, hk, hc.1, hc.2, rfl⟩
    next => cases h
  next => cases h
theorem x_ldX_spec {ok : FieldType → Bool} {i : Int32} {k : Nat} {v : Value} (h : x_ldX ok X k i = some v) : ∃ ty n f, x_xar X k = some (ty, n, f) ∧ ok ty = true ∧ vp_in i n ∧ v = f i.toNatClampNeg := by
  unfold x_ldX at h
  split at h
  next ty n f hk =>
    split at h
    next hc => cases h; exact ⟨ty, n, f, hk, hc.1, hc.2, rfl⟩
    next => cases h
  next => cases h
theorem x_stA_spec {k t : Nat} {i : Int32} {v : Value} {G' : x_G} (h : x_stA G k i t v = some G') : ∃ n, G.1[k]? = some (.inr (t, n)) ∧ vp_in i n ∧ G' = x_put G k i.toNatClampNeg (x_ety t) v := by
  unfold x_stA at h
  split at h
  next t' n hk =>
    split at h
    next hc => obtain ⟨rfl, hc⟩ := hc; cases h; exact ⟨n, hk, hc, rfl⟩
    next => cases h
  next => cases h
end XHOK
theorem x_cplC : (List.range vwCl.length).all (fun a => match vwCl[a]?, x_cpl[a]? with
    | some (C, _, N), some (i, j) => decide (lw_tbl[i]? = some (.instantiable C N)) && decide (lw_tbl[j]? = some (.initialized C))
    | _, _ => false) = true := by decide +kernel
theorem x_cpl_ok (a : Nat) (C : String) (T : u_T) (N : Nat) (h : vwCl[a]? = some (C, T, N)) : lw_tbl[((x_cpl[a]?).getD (0, 0)).1]? = some (.instantiable C N) ∧ lw_tbl[((x_cpl[a]?).getD (0, 0)).2]? = some (.initialized C) := by
  have h1 := List.all_eq_true.mp x_cplC a (List.mem_range.mpr (List.getElem?_eq_some_iff.mp h).1)
  rw [h] at h1
  cases h2 : x_cpl[a]? with
  | none => rw [h2] at h1; cases h1
  | some ij =>
    obtain ⟨i, j⟩ := ij
    rw [h2] at h1
    simpa using h1
theorem x_aplC : ([ArrayType.int, .long, .byte, .boolean] : List ArrayType).all (fun t => decide (lw_tbl[(x_apl[(x_atn t).getD 0]?).getD 0]? = some (.arrayClass (newarray.typeOf t)))) = true := by decide +kernel
theorem x_apl_ok {args : Array Value} {s : State} (hts : ∀ w ∈ x_gw, w.before args s = true) {at_ : ArrayType} {t : Nat} (h : x_atn at_ = some t) : (Cond.arrayClass (newarray.typeOf at_)).before args s = true := by
  have h1 := List.all_eq_true.mp x_aplC at_ (by cases at_ <;> first | (cases h; done) | simp)
  exact x_wd hts (decide_eq_true_eq.mp h1) rfl
theorem x_apqC : ([4, 5, 6] : List Nat).all (fun t => decide (lw_tbl[(x_apl[t]?).getD 0]? = some (.arrayOver (x_ety t)))) = true := by decide +kernel
theorem x_apq_ok {E : x_Ad} {X : x_Ext} {args : Array Value} {s : State} (hF : x_XF E X s) {t : Nat} {C : String} (h4 : 4 ≤ t) (h7 : t < 7) (hty : x_ety t = .object C) : (Cond.arrayOver (.object C)).before args s = true := by
  have h1 := List.all_eq_true.mp x_apqC t (by
    obtain rfl | rfl | rfl : t = 4 ∨ t = 5 ∨ t = 6 := by omega
    all_goals simp)
  have h2 := decide_eq_true_eq.mp h1
  rw [hty] at h2
  exact x_ng hF h2 rfl
end
section
/-! ===== every instruction of the heap ===== -/
theorem x_ar {a b c d : Nat} (h : a + b = c + (b + d)) : a = c + d := by omega
section XHK
variable {p : Program} {l : Launch} {e : Env} {R : Room} {s : State} {m : MethodId} {args : Array Value} {below : List Frame} {meth : Method} {c : Code} {H : Heap} {locs : List Loc} {cells slots : Nat} {Q : State → Prop}
variable {pc : Nat} {ls : Array Slot} {E : x_Ad} {G : x_G} {X : x_Ext} {mi : Nat}
theorem x_cv_ext {bs : Nat} {xa : Nat → Option Nat} {i q : Nat} (h : xa i = some q) : x_cv bs xa (.retAddr i) = .ref q := by simp [x_cv, h, va_rf]
set_option maxHeartbeats 4000000 in
theorem x_heap_ok (C0 : x_Cx p s m args meth c mi) (hK : x_KA E s) (hF : x_XF E X s) (hH : x_HR E G H) (hS : va_S (x_Ao E) s.heap H locs) {ins : Instr} {a b q : Nat} {z : Int} {st st' : List Value} {G' : x_G} (hd : decode (x_b mi) pc = .ok (ins, x_len ins)) (hw : x_chkW (x_y mi) a b q z ins = true) (h : x_heap X a b z ins st G = some (st', G')) {cells' slots' : Nat} (hc : cells' + G.1.length = cells + G'.1.length) (hs : slots' + x_nS G = slots + x_nS G') (hcR : cells' ≤ R.cells) (hsR : slots' ≤ R.slots)
    (k : ∀ (H1 : Heap) (locs1 : List Loc), x_HR E G' H1 → va_S (x_Ao E) s.heap H1 locs1 → W p l e R s m args below meth c H1 locs1 cells' slots' Q (F0 m (pc + x_len ins) ls (st'.map (x_cv E.2.2.1 E.2.2.2)))) : W p l e R s m args below meth c H locs cells slots Q (F0 m pc ls (st.map (x_cv E.2.2.1 E.2.2.2))) := by
  obtain ⟨hx, hb, hml, hown, hts, hinit⟩ := C0
  have hsm : G'.1 = G.1 → cells' = cells ∧ slots' = slots := fun hG => by
    rw [hG] at hc; rw [x_nS_eq hG] at hs; exact ⟨by omega, by omega⟩
  have hput : ∀ {k j : Nat} {ty : FieldType} {v : Value} {H1 : Heap} {zz : Loc}, zz.base = E.2.2.1 + k → x_HR E (x_put G k j ty v) H1 → (∀ q, q < E.2.2.1 → H1[q]? = H[q]?) → va_S (x_Ao E) s.heap H1 (locs ++ [zz]) := by
    intro k j ty v H1 zz hz h1 h2
    refine x_S_step hS (by rw [h1.1, hH.1, x_put_1]; exact Nat.le_refl _) h2 (fun y hy => ?_)
    rw [List.mem_singleton.mp hy, hz]
    omega
  have hnew : ∀ {sh : Nat ⊕ (Nat × Nat)} {H1 : Heap}, x_HR E (x_new G sh) H1 → (∀ q, q < E.2.2.1 → H1[q]? = H[q]?) → va_S (x_Ao E) s.heap H1 locs := by
    intro sh H1 h1 h2
    have h3 := x_S_step (L := []) hS (by rw [h1.1, hH.1, x_nC_new]; omega) h2 (fun y hy => by cases hy)
    rwa [List.append_nil] at h3
  unfold x_heap at h
  split at h
  -- ldc
  · rename_i i st G
    unfold x_chkW at hw
    dsimp only at hw
    split at h
    · next ha =>
      cases h
      obtain ⟨rfl, rfl⟩ := hsm rfl
      rw [if_pos ha] at hw
      unfold x_chkK at hw
      split at hw
      · next own i' v e2 =>
        simp only [Bool.and_eq_true, decide_eq_true_eq] at hw
        obtain ⟨⟨rfl, rfl⟩, rfl⟩ := hw
        exact lv_ldc hx hb hown (x_wd hts e2 rfl) hd (k _ _ hH hS)
      · cases hw
    · next ha =>
      cases h
      obtain ⟨rfl, rfl⟩ := hsm rfl
      rw [if_neg ha] at hw
      simp only [Bool.and_eq_true, decide_eq_true_eq] at hw
      obtain ⟨hw1, rfl⟩ := hw
      obtain ⟨q, g1, g2, -⟩ := hF.2.2.2.2.1
      have k1 := k _ _ hH hS
      rw [List.map_cons, x_cv_ext g1] at k1
      exact va_ldcS hx hb hown (by rw [hw1]; exact g2) hd k1
  -- ldc_w
  · cases h
    obtain ⟨rfl, rfl⟩ := hsm rfl
    unfold x_chkW x_chkK at hw
    dsimp only at hw
    split at hw
    · next own i' v e2 =>
      simp only [Bool.and_eq_true, decide_eq_true_eq] at hw
      obtain ⟨⟨rfl, rfl⟩, rfl⟩ := hw
      exact lv_ldcw hx hb hown (x_wd hts e2 rfl) hd (k _ _ hH hS)
    · cases hw
  -- ldc2_w
  · cases h
    obtain ⟨rfl, rfl⟩ := hsm rfl
    unfold x_chkW x_chkL at hw
    dsimp only at hw
    split at hw
    · next own i' v e2 =>
      simp only [Bool.and_eq_true, decide_eq_true_eq] at hw
      obtain ⟨⟨rfl, rfl⟩, rfl⟩ := hw
      exact lv_ldc2 hx hb hown (x_wd hts e2 rfl) hd (k _ _ hH hS)
    · cases hw
  -- getstatic
  · split at h
    · next sv hsv =>
      cases h
      obtain ⟨rfl, rfl⟩ := hsm rfl
      unfold x_chkW x_chkS at hw
      dsimp only at hw
      split at hw
      · next s2 own i r n d e1 e2 =>
        rw [hsv] at e1
        cases e1
        simp only [Bool.and_eq_true, decide_eq_true_eq, Prod.mk.injEq] at hw
        obtain ⟨⟨rfl, rfl⟩, rfl, rfl, rfl⟩ := hw
        exact va_gets hx hb (hF.2.1 a sv hsv) hS hown (x_wd hts e2 rfl) (fun _ h => h) hd (k _ _ hH hS)
      · cases hw
    · cases h
  -- getfield
  · split at h
    · next hg =>
      cases h
      obtain ⟨rfl, rfl⟩ := hsm rfl
      unfold x_chkW at hw
      dsimp only at hw
      have ha : ¬ a = 200 := by
        intro q; subst q; exact absurd hg.2 (by simp [x_fty])
      rw [if_neg ha] at hw
      obtain ⟨C, T, N, h1, h2, h3⟩ := x_chkF_spec hts hF hw
      exact x_getf hx hb hts (x_ci0 a C T N h1).1 hown hK hH hg.1 h2 h3 hd (k _ _ hH hS)
    · cases h
  -- getfield of a thing outside
  · split at h
    · next ha =>
      subst ha
      split at h
      · next v hv =>
        cases h
        obtain ⟨rfl, rfl⟩ := hsm rfl
        obtain ⟨q, g1, g2⟩ := hF.2.2.1 _ _ v hv
        rw [List.map_cons, x_cv_ext g1]
        obtain ⟨cf, kf, fi, f, cell, h1, h2, h3, h4, h5, h6⟩ := g2.kept hS.2.1
        unfold x_chkW x_chkX at hw
        dsimp only at hw
        rw [if_pos rfl] at hw
        split at hw
        · next own i' r n d e2 =>
          simp only [Bool.and_eq_true, decide_eq_true_eq] at hw
          obtain ⟨⟨rfl, rfl⟩, hrnd⟩ := hw
          rw [← hrnd] at h1
          exact W.getf hx hb hown (x_wd hts e2 rfl) h1 h2 h3 h4 h5 rfl rfl hd (k _ _ hH hS)
        · next own i' r n d ho e2 =>
          simp only [Bool.and_eq_true, decide_eq_true_eq] at hw
          obtain ⟨⟨rfl, rfl⟩, hrnd⟩ := hw
          rw [← hrnd] at h1
          exact va_Wgetf hx hb hown (x_ng hF e2 rfl) h1 h2 h3 h4 h5 rfl rfl hd (k _ _ hH hS)
        · cases hw
      · cases h
    · cases h
  -- putfield
  · split at h
    · next hg =>
      cases h
      obtain ⟨rfl, rfl⟩ := hsm (x_put_1 _ _ _ _ _)
      obtain ⟨C, T, N, h1, h2, h3⟩ := x_chkP_spec hts hF hinit hw
      exact x_putf hx hb hts (x_ci0 a C T N h1).1 hown hK hH hg.1 h2 hg.2.2 h3 hd fun H1 z e1 e2 e3 => k _ _ e2 (hput e1 e2 e3)
    · cases h
  -- arraylength
  · split at h
    · next t n hk =>
      split at h
      · next ht =>
        cases h
        obtain ⟨rfl, rfl⟩ := hsm rfl
        exact x_alen hx hb hK hH hk ht hd (k _ _ hH hS)
      · cases h
    · cases h
  · split at h
    · next qq hq =>
      cases h
      obtain ⟨rfl, rfl⟩ := hsm rfl
      obtain ⟨ty, n, f⟩ := qq
      obtain ⟨qa, g1, g2⟩ := hF.2.2.2.1 _ ty n f hq
      rw [List.map_cons, x_cv_ext g1]
      exact va_tlen hx hb g2 hS rfl hd (k _ _ hH hS)
    · cases h
  -- loads
  · split at h
    · next v hv =>
      cases h
      obtain ⟨rfl, rfl⟩ := hsm rfl
      obtain ⟨t, n, h1, h2, h3, rfl⟩ := x_ldA_spec hv
      have ht : t = 0 := by simpa using h2
      subst ht
      exact x_ald_ok hx hb hK hH h1 (by omega) h3 hd (k _ _ hH hS)
    · cases h
  · split at h
    · next v hv =>
      cases h
      obtain ⟨rfl, rfl⟩ := hsm rfl
      obtain ⟨t, n, h1, h2, h3, rfl⟩ := x_ldA_spec hv
      have ht : t = 1 := by simpa using h2
      subst ht
      exact x_ald_ok hx hb hK hH h1 (by omega) h3 hd (k _ _ hH hS)
    · cases h
  · split at h
    · next v hv =>
      cases h
      obtain ⟨rfl, rfl⟩ := hsm rfl
      obtain ⟨t, n, h1, h2, h3, rfl⟩ := x_ldA_spec hv
      have ht : t = 2 ∨ t = 3 := by simpa using h2
      rcases ht with rfl | rfl
      · exact x_ald_ok hx hb hK hH h1 (by omega) h3 hd (k _ _ hH hS)
      · exact x_ald_ok hx hb hK hH h1 (by omega) h3 hd (k _ _ hH hS)
    · cases h
  · split at h
    · next v hv =>
      cases h
      obtain ⟨rfl, rfl⟩ := hsm rfl
      obtain ⟨t, n, h1, h2, h3, rfl⟩ := x_ldA_spec hv
      have ht : t = 4 ∨ t = 5 ∨ t = 6 := by
        simp only [Bool.and_eq_true, decide_eq_true_eq] at h2; omega
      rcases ht with rfl | rfl | rfl
      · exact x_ald_ok hx hb hK hH h1 (by omega) h3 hd (k _ _ hH hS)
      · exact x_ald_ok hx hb hK hH h1 (by omega) h3 hd (k _ _ hH hS)
      · exact x_ald_ok hx hb hK hH h1 (by omega) h3 hd (k _ _ hH hS)
    · cases h
  · split at h
    · next v hv =>
      cases h
      obtain ⟨rfl, rfl⟩ := hsm rfl
      obtain ⟨ty, n, f, h1, h2, h3, rfl⟩ := x_ldX_spec hv
      obtain ⟨qa, g1, g2⟩ := hF.2.2.2.1 _ ty n f h1
      have ht : ty = .int := by simpa using h2
      subst ht
      rw [List.map_cons, List.map_cons, x_cv_ext g1]
      exact va_ti hx hb g2 hS h3 rfl hd (k _ _ hH hS)
    · cases h
  · split at h
    · next v hv =>
      cases h
      obtain ⟨rfl, rfl⟩ := hsm rfl
      obtain ⟨ty, n, f, h1, h2, h3, rfl⟩ := x_ldX_spec hv
      obtain ⟨qa, g1, g2⟩ := hF.2.2.2.1 _ ty n f h1
      have ht : ty = .byte := by simpa using h2
      subst ht
      rw [List.map_cons, List.map_cons, x_cv_ext g1]
      exact va_tb hx hb g2 hS h3 rfl hd (k _ _ hH hS)
    · cases h
  · split at h
    · next v hv =>
      cases h
      obtain ⟨rfl, rfl⟩ := hsm rfl
      obtain ⟨ty, n, f, h1, h2, h3, rfl⟩ := x_ldX_spec hv
      obtain ⟨qa, g1, g2⟩ := hF.2.2.2.1 _ ty n f h1
      rw [List.map_cons, List.map_cons, x_cv_ext g1]
      cases ty with
      | object C => exact vb_tq hx hb g2 hS h3 rfl hd (k _ _ hH hS)
      | _ => cases h2
    · cases h
  -- stores
  · split at h
    · next G2 hG =>
      cases h
      obtain ⟨n, h1, h2, rfl⟩ := x_stA_spec hG
      obtain ⟨rfl, rfl⟩ := hsm (x_put_1 _ _ _ _ _)
      exact x_iast_ok hx hb hK hH h1 h2 hd fun H1 z e1 e2 e3 => k _ _ e2 (hput e1 e2 e3)
    · cases h
  · split at h
    · next G2 hG =>
      cases h
      obtain ⟨n, h1, h2, rfl⟩ := x_stA_spec hG
      obtain ⟨rfl, rfl⟩ := hsm (x_put_1 _ _ _ _ _)
      exact x_last_ok hx hb hK hH h1 h2 hd fun H1 z e1 e2 e3 => k _ _ e2 (hput e1 e2 e3)
    · cases h
  · split at h
    · split at h
      · next G2 hG =>
        cases h
        obtain ⟨n, h1, h2, rfl⟩ := x_stA_spec hG
        obtain ⟨rfl, rfl⟩ := hsm (x_put_1 _ _ _ _ _)
        exact x_bast_ok hx hb hK hH h1 h2 hd fun H1 z e1 e2 e3 => k _ _ e2 (hput e1 e2 e3)
      · cases h
    · split at h
      · next G2 hG =>
        cases h
        obtain ⟨n, h1, h2, rfl⟩ := x_stA_spec hG
        obtain ⟨rfl, rfl⟩ := hsm (x_put_1 _ _ _ _ _)
        exact x_zast_ok hx hb hK hH h1 h2 hd fun H1 z e1 e2 e3 => k _ _ e2 (hput e1 e2 e3)
      · cases h
  · split at h
    · next ht =>
      split at h
      · next G2 hG =>
        cases h
        obtain ⟨n, h1, h2, rfl⟩ := x_stA_spec hG
        obtain ⟨rfl, rfl⟩ := hsm (x_put_1 _ _ _ _ _)
        exact x_aastN_ok hx hb hK hH h1 ht.1 ht.2 h2 hd fun H1 z e1 e2 e3 => k _ _ e2 (hput e1 e2 e3)
      · cases h
    · cases h
  · split at h
    · next ht =>
      split at h
      · next G2 hG =>
        cases h
        obtain ⟨n, h1, h2, rfl⟩ := x_stA_spec hG
        obtain ⟨rfl, rfl⟩ := hsm (x_put_1 _ _ _ _ _)
        exact x_aast_ok hx hb hK hH h1 ht.1 ht.2.1 h2 ht.2.2 hd fun H1 z e1 e2 e3 => k _ _ e2 (hput e1 e2 e3)
      · cases h
    · cases h
  -- new
  · split at h
    · next ha =>
      cases h
      rw [x_nC_new] at hc
      rw [x_nS_new] at hs
      unfold x_chkW x_chkN at hw
      dsimp only at hw
      split at hw
      · next C T N own i C' e1 e2 =>
        simp only [Bool.and_eq_true, decide_eq_true_eq] at hw
        obtain ⟨⟨rfl, rfl⟩, rfl⟩ := hw
        obtain ⟨hCI, hnf, -⟩ := x_ci0 a C T N e1
        have hN : x_sz (.inl a) = N := hCI.2.1
        obtain rfl : cells' = cells + 1 := by omega
        obtain rfl : slots' = slots + N := by omega
        have hpl := x_cpl_ok a C T N e1
        refine x_new_ok hx hb hts hCI (fun j => ?_) hown hK hH (x_wd hts e2 rfl) (x_wd hts hpl.1 rfl) (x_wd hts hpl.2 rfl) hcR hsR hd fun H1 h1 h2 => k _ _ h1 (hnew h1 h2)
        have hall := List.all_eq_true.mp hnf
        by_cases hj : j < (x_fty a).length
        · have h5 := hall _ (List.getElem_mem hj)
          simp only [Bool.and_eq_true, decide_eq_true_eq] at h5
          rw [List.getD_eq_getElem?_getD, List.getElem?_eq_getElem hj]
          exact h5
        · rw [List.getD_eq_getElem?_getD, List.getElem?_eq_none (by omega)]
          exact ⟨(by intro q; cases q), (by intro q; cases q)⟩
      · cases hw
    · cases h
  · split at h
    · next t ht =>
      split at h
      · next hn =>
        cases h
        rw [x_nC_new] at hc
        rw [x_nS_new] at hs
        obtain rfl : cells' = cells + 1 := by omega
        obtain rfl := x_ar hs
        exact x_newa_ok hx hb hK hH ht (x_apl_ok hts ht) hn.1 hn.2 hcR hsR hd fun H1 h1 h2 => k _ _ h1 (hnew h1 h2)
      · cases h
    · cases h
  · split at h
    · next hn =>
      cases h
      rw [x_nC_new] at hc
      rw [x_nS_new] at hs
      obtain rfl : cells' = cells + 1 := by omega
      obtain rfl := x_ar hs
      unfold x_chkW x_chkQ at hw
      dsimp only at hw
      split at hw
      · next own i C' e2 =>
        simp only [Bool.and_eq_true, decide_eq_true_eq] at hw
        obtain ⟨⟨rfl, rfl⟩, hty⟩ := hw
        exact x_newq_ok hx hb hK hH hn.1 hn.2.1 hty hown (x_wd hts e2 rfl) (x_apq_ok hF hn.1 hn.2.1 hty) hn.2.2.1 hn.2.2.2 hcR hsR hd fun H1 h1 h2 => k _ _ h1 (hnew h1 h2)
      · cases hw
    · cases h
  · cases h
end XHK
end
section
/-! ===== the shadow machine is sound ===== -/
theorem x_heap_mono {X : x_Ext} {a b : Nat} {z : Int} {ins : Instr} {st st' : List Value} {G G' : x_G} (h : x_heap X a b z ins st G = some (st', G')) : G'.1 = G.1 ∨ ∃ sh, G' = x_new G sh := by
  unfold x_heap at h
  split at h
  all_goals first
    | (cases h; exact Or.inl rfl)
    | (cases h; done)
    | (split at h <;> first | (cases h; exact Or.inl rfl) | (cases h; done) | (cases h; exact Or.inl (x_put_1 _ _ _ _ _)) | (cases h; exact Or.inr ⟨_, rfl⟩) | (obtain ⟨n, -, -, rfl⟩ := x_stA_spec (by assumption); cases h; exact Or.inl (x_put_1 _ _ _ _ _)) | (split at h <;> first | (cases h; exact Or.inl rfl) | (cases h; done) | (cases h; exact Or.inr ⟨_, rfl⟩) | (rename_i hh; obtain ⟨n, -, -, rfl⟩ := x_stA_spec hh; cases h; exact Or.inl (x_put_1 _ _ _ _ _))))
    | (split at h <;> rename_i hh <;> first | (cases h; done) | (obtain ⟨n, -, -, rfl⟩ := x_stA_spec hh; cases h; exact Or.inl (x_put_1 _ _ _ _ _)))
theorem x_heap_le {X : x_Ext} {a b : Nat} {z : Int} {ins : Instr} {st st' : List Value} {G G' : x_G} (h : x_heap X a b z ins st G = some (st', G')) : G.1.length ≤ G'.1.length ∧ x_nS G ≤ x_nS G' := by
  rcases x_heap_mono h with e | ⟨sh, rfl⟩
  · exact ⟨by rw [e]; exact Nat.le_refl _, by rw [x_nS_eq e]; exact Nat.le_refl _⟩
  · exact ⟨by rw [x_nC_new]; omega, by rw [x_nS_new]; omega⟩
theorem x_cpy_1 (G : x_G) (k0 k1 t sp dp n : Nat) : (x_cpy G k0 k1 t sp dp n).1 = G.1 := by unfold x_cpy; split <;> rfl
theorem x_exec_le {X : x_Ext} : ∀ (n d mi pc : Nat) (lo : x_Lo) (st : List Value) (G : x_G) (v : Option Value) (Gf : x_G), x_exec X n d mi pc lo st G = some (v, Gf) → G.1.length ≤ Gf.1.length ∧ x_nS G ≤ x_nS Gf := by
  intro n
  induction n with
  | zero => intro d mi pc lo st G v Gf h; cases h
  | succ n ih =>
    intro d mi pc lo st G v Gf h
    unfold x_exec at h
    split at h
    · cases h
    · split at h
      · split at h
        · exact ih _ _ _ _ _ _ _ _ h
        · cases h
      · split at h
        · exact ih _ _ _ _ _ _ _ _ h
        · cases h
      · split at h
        · exact ih _ _ _ _ _ _ _ _ h
        · cases h
      · split at h
        · next hh =>
          have h1 := x_heap_le hh
          have h2 := ih _ _ _ _ _ _ _ _ h
          exact ⟨Nat.le_trans h1.1 h2.1, Nat.le_trans h1.2 h2.2⟩
        · cases h
      · split at h
        · split at h
          · split at h
            · exact ih _ _ _ _ _ _ _ _ h
            · cases h
          · cases h
        · split at h
          · split at h
            · split at h
              · split at h
                · have h2 := ih _ _ _ _ _ _ _ _ h
                  rw [x_cpy_1, x_nS_eq (x_cpy_1 _ _ _ _ _ _ _)] at h2
                  exact h2
                · cases h
              · cases h
            · cases h
          · split at h
            · split at h
              · split at h
                · exact ih _ _ _ _ _ _ _ _ h
                · cases h
              · cases h
            · split at h
              · split at h
                · next hh =>
                  have h1 := ih _ _ _ _ _ _ _ _ hh
                  have h2 := ih _ _ _ _ _ _ _ _ h
                  exact ⟨Nat.le_trans h1.1 h2.1, Nat.le_trans h1.2 h2.2⟩
                · cases h
              · cases h
      · split at h
        · cases h; exact ⟨Nat.le_refl _, Nat.le_refl _⟩
        · cases h
end
section
/-! ===== calls ===== -/
def x_wsm (mi : Nat) : List Cond := .code (x_y mi) (x_b mi) (x_ml mi) (x_rt mi) :: x_gw
def x_Pre (E : x_Ad) (X : x_Ext) (G : x_G) (as : List Value) : Array Value → State → Prop := va_Pc (as.map (x_cv E.2.2.1 E.2.2.2)) (fun U => x_KA E U ∧ x_HR E G U.heap ∧ x_XF E X U)
def x_Post (E : x_Ad) (G' : x_G) (v : Option Value) : Array Value → State → Outcome → State → Prop := fun _ st oc t => oc = .returned (v.map (x_cv E.2.2.1 E.2.2.2)) ∧ x_HR E G' t.heap ∧ va_F (x_Ao E) st t
/-- what must be so of the tables, all of it -/
def x_CHK : Prop := (∀ mi pc row, x_row mi pc = some row → x_chk (x_y mi) (x_b mi) pc row = true) ∧ ∀ mi, mi < n_L_law → x_okM mi
theorem x_chkM_spec {mi : Nat} (h0 : x_okM mi) : plainName (x_y mi).cls = true ∧ ((x_y mi).cls ≠ "java/lang/invoke/MethodHandle" ∧ (x_y mi).cls ≠ "java/lang/invoke/VarHandle") ∧ lw_tbl[(x_pl mi).1]? = some (.code (x_y mi) (x_b mi) (x_ml mi) (x_rt mi)) ∧ x_ml mi ≤ 20 ∧ lw_tbl[(x_pl mi).2.2.2]? = some (.initialized (x_y mi).cls) ∧
    (x_stat mi = true → lw_tbl[(x_pl mi).2.1]? = some (.static (x_y mi))) ∧ (x_stat mi = false → lw_tbl[(x_pl mi).2.1]? = some (.instanceMethod (x_y mi)) ∧ ((x_y mi).name = "<init>" ∨ lw_tbl[(x_pl mi).2.2.1]? = some (.selects (x_y mi).cls (x_y mi) (x_y mi)))) ∧
    (x_mci mi = 99 ∨ (x_mci mi = 100 ∧ (x_y mi).cls = "java/lang/String") ∨ (vwCl[x_mci mi]?).map (fun q => q.1) = some (x_y mi).cls) := by
  obtain ⟨h, h3⟩ := h0
  unfold x_chkM at h
  simp only [Bool.and_eq_true, decide_eq_true_eq] at h
  obtain ⟨⟨⟨⟨⟨h1, h2⟩, h4⟩, h5⟩, h6⟩, h7⟩ := h
  refine ⟨h1, h2, h3, h4, h5, fun hs => ?_, fun hs => ?_, ?_⟩
  · rw [if_pos hs] at h6; exact decide_eq_true_eq.mp h6
  · rw [if_neg (by rw [hs]; decide)] at h6
    simp only [Bool.and_eq_true, Bool.or_eq_true, decide_eq_true_eq] at h6
    exact h6
  · simp only [Bool.or_eq_true, Bool.and_eq_true, decide_eq_true_eq] at h7
    rcases h7 with (h7 | h7) | h7
    · exact Or.inl h7
    · exact Or.inr (Or.inl h7)
    · exact Or.inr (Or.inr h7)
section XCALL
variable {p : Program} {l : Launch} {e : Env} {R : Room} {s : State} {m : MethodId} {args : Array Value} {below : List Frame} {meth : Method} {c : Code} {H : Heap} {locs : List Loc} {cells slots : Nat} {Q : State → Prop}
variable {pc : Nat} {ls : Array Slot} {E : x_Ad} {G : x_G} {X : x_Ext} {mi : Nat}
theorem x_after {mc ms : Nat} {rest st0 : List Value} {Qa : State → Outcome → State → Prop} {free : Addr → Prop} (hr : va_Run p l e R s m args below meth c H locs cells slots mc ms (F0 m pc ls st0) rest Qa free)
    (k : ∀ (v : Option Value) (st₀ t : State) (H1 : Heap) (L : List Loc), st₀.heap = H → (∀ q ∈ L, free q.base) → t.heap = H1 → Qa st₀ (.returned v) t → W p l e R s m args below meth c H1 (locs ++ L) (cells + mc) (slots + ms) Q (F0 m (pc + 3) ls (v.toList ++ rest))) : W p l e R s m args below meth c H locs cells slots Q (F0 m pc ls st0) := by
  intro T hT X
  obtain ⟨v, st₀, t, T', L, h0, X', hL, e1, e2, hq, st⟩ := hr T hT X
  obtain ⟨t2, a1, b1⟩ := k v st₀ t T'.heap L h0 hL e1.symm hq T' rfl X'
  exact ⟨t2, st t2 a1, b1⟩
theorem x_Pre_blind (as : List Value) : FrameBlind (x_Pre E X G as) := by
  intro a U g mk q
  obtain ⟨q1, q2, q3, q4⟩ := q
  exact ⟨q1, x_KA.moved (u := U) (U := U.calling g mk a) (Vm.Alike.refl U.vm) q2, q3, x_XF_same (u := U) (U := U.calling g mk a) q4 rfl rfl⟩
theorem x_Pre_at (hK : x_KA E s) (hF : x_XF E X s) (hH : x_HR E G H) (hS : va_S (x_Ao E) s.heap H locs) {as : List Value} {av : Array Value} (ha : av = (as.map (x_cv E.2.2.1 E.2.2.2)).toArray) (U : State) (hU : U.heap = H) (hW : s.WarmedH U.vm) : x_Pre E X G as av U :=
  ⟨ha, x_KA.moved hW.alike hK, by rw [hU]; exact hH, x_XF_moved hF hU hW hS⟩
/-- the call's link -/
theorem x_link (hts : ∀ w ∈ x_gw, w.before args s = true) (hF : x_XF E X s) {idx a q : Nat} (h : (match lw_tbl[q]? with
    | some (.methodLink own i y) => decide (own = (x_y mi).cls) && decide (i = idx) && decide (y = x_y a)
    | some (.methodLinkNest own i y _) => decide (own = (x_y mi).cls) && decide (i = idx) && decide (y = x_y a)
    | _ => false) = true) : (Cond.methodLink (x_y mi).cls idx (x_y a)).before args s = true ∨ ∃ host, (Cond.methodLinkNest (x_y mi).cls idx (x_y a) host).before args s = true := by
  split at h
  next own i y e2 =>
    simp only [Bool.and_eq_true, decide_eq_true_eq] at h
    obtain ⟨⟨rfl, rfl⟩, rfl⟩ := h
    exact Or.inl (x_wd hts e2 rfl)
  next own i y ho e2 =>
    simp only [Bool.and_eq_true, decide_eq_true_eq] at h
    obtain ⟨⟨rfl, rfl⟩, rfl⟩ := h
    exact Or.inr ⟨ho, x_ng hF e2 rfl⟩
  next => cases h
theorem x_gw_good {w : Cond} (h : w ∈ x_gw) : goodWord w = true := (List.mem_filter.mp h).2
theorem x_ws_warm (hts : ∀ w ∈ x_gw, w.before args s = true) {a : Nat} (hM : x_okM a) : ∀ w ∈ x_wsm a, ∀ (a' : Array Value) (U : State), s.WarmedH U.vm → w.before a' U = true := by
  have hc : Cond.code (x_y a) (x_b a) (x_ml a) (x_rt a) ∈ x_gw := List.mem_filter.mpr ⟨List.mem_of_getElem? (x_chkM_spec hM).2.2.1, rfl⟩
  have h1 : ∀ w ∈ x_wsm a, w ∈ x_gw := fun w hw => (List.mem_cons.mp hw).elim (fun q => q ▸ hc) id
  exact pay_in hts (fun w hw => ⟨h1 w hw, good_of_word (x_gw_good (h1 w hw))⟩)
/-- a method of ours, called: from its contract to what stands behind the call -/
theorem x_call_ok (C0 : x_Cx p s m args meth c mi) (hK : x_KA E s) (hF : x_XF E X s) (hH : x_HR E G H) (hS : va_S (x_Ao E) s.heap H locs) (hsz : ls.size = x_ml mi) {ins : Instr} {idx a b q kind : Nat} (hins : (kind = 0 ∧ ins = .invokevirtual idx) ∨ (kind = 1 ∧ ins = .invokespecial idx) ∨ (kind = 2 ∧ ins = .invokestatic idx)) (hd : decode (x_b mi) pc = .ok (ins, 3)) (hw : x_chkC (x_y mi) idx a b q kind = true) (ha0 : ¬ a = 1000) (ha1 : ¬ a = 1001) (ha2 : ¬ (a = 1002 ∨ a = 1003))
    (hall : ∀ mi, mi < n_L_law → x_okM mi) {st : List Value} {d mc ms : Nat} (hd1 : 1 ≤ d) (hb : b ≤ st.length) (hr8 : x_words (st.drop b) ≤ 8) (hrcv : x_stat a = true ∨ x_rcv a G (st.take b).reverse = true) {G1 : x_G} {v : Option Value}
    (hM : Met l (x_y a) (x_wsm a) ({ frames := d - 1, cells := mc, slots := ms, locals := 64 * (d - 1) } : Room) (x_Pre E X G (st.take b).reverse) (x_Post E G1 v) mc ms (x_Ao E)) (hfr : d ≤ R.frames) (hlo : 64 * d ≤ R.locals) (hcc : cells + mc ≤ R.cells) (hss : slots + ms ≤ R.slots)
    (k : ∀ (H1 : Heap) (locs1 : List Loc), x_HR E G1 H1 → va_S (x_Ao E) s.heap H1 locs1 → W p l e R s m args below meth c H1 locs1 (cells + mc) (slots + ms) Q (F0 m (pc + 3) ls ((v.toList ++ st.drop b).map (x_cv E.2.2.1 E.2.2.2)))) : W p l e R s m args below meth c H locs cells slots Q (F0 m pc ls (st.map (x_cv E.2.2.1 E.2.2.2))) := by
  obtain ⟨hx, hbb, hml, hown, hts, hinit⟩ := C0
  unfold x_chkC at hw
  rw [if_neg ha0, if_neg ha1, if_neg ha2] at hw
  simp only [Bool.and_eq_true, decide_eq_true_eq] at hw
  obtain ⟨⟨hlt, hlk⟩, hkd⟩ := hw
  have hMa := hall a hlt
  obtain ⟨-, hcn, hcode, hml20, hini, hstat, hinst, hcls⟩ := x_chkM_spec hMa
  have hlink := x_link (mi := mi) hts hF hlk
  have hwarm := x_ws_warm hts hMa
  have hroom : (d - 1) + 1 ≤ R.frames ∧ 8 + (x_ml a + 11) + 64 * (d - 1) ≤ R.locals := ⟨by omega, by omega⟩
  have hcodeb : (Cond.code (x_y a) (x_b a) (x_ml a) (x_rt a)).before args s = true := x_wd hts hcode rfl
  have hinib : (Cond.initialized (x_y a).cls).before args s = true := x_wd hts hini rfl
  have hcin : Cond.code (x_y a) (x_b a) (x_ml a) (x_rt a) ∈ x_wsm a := List.mem_cons_self
  have hrest : ((st.drop b).map (x_cv E.2.2.1 E.2.2.2)).map (fun v => v.category) = (st.drop b).map (fun v => v.category) := by
    rw [List.map_map]; congr 1; funext v; exact x_cv_cat _ _ v
  have hW8 : 2 * (F0 m pc ls (st.map (x_cv E.2.2.1 E.2.2.2))).monitorRoom + (((st.drop b).map (x_cv E.2.2.1 E.2.2.2)).map fun v => v.category).sum ≤ 8 := by
    rw [hrest]; show 2 * 0 + _ ≤ 8; unfold x_words at hr8; omega
  have hfin : ∀ {rest : List Value}, rest = (st.drop b).map (x_cv E.2.2.1 E.2.2.2) → ∀ {as : Array Value}, va_Run p l e R s m args below meth c H locs cells slots mc ms (F0 m pc ls (st.map (x_cv E.2.2.1 E.2.2.2))) rest (x_Post E G1 v as) (x_Ao E) → W p l e R s m args below meth c H locs cells slots Q (F0 m pc ls (st.map (x_cv E.2.2.1 E.2.2.2))) := by
    intro rest hre as hrun
    refine x_after hrun fun v' st₀ t H1 L h0 hL h1 hq => ?_
    obtain ⟨hv, hHR, hFr⟩ := hq
    have hv' : v' = v.map (x_cv E.2.2.1 E.2.2.2) := Outcome.returned.inj hv
    subst hv'
    subst hre
    have e9 : (v.map (x_cv E.2.2.1 E.2.2.2)).toList ++ (st.drop b).map (x_cv E.2.2.1 E.2.2.2) = (v.toList ++ st.drop b).map (x_cv E.2.2.1 E.2.2.2) := by
      cases v <;> simp
    rw [e9]
    subst h1
    rw [← h0] at hS hH
    refine k _ _ hHR (x_S_step hS hFr.1 (fun q hq => hFr.2 q (by rw [hH.1]; omega) (Nat.not_le.mpr hq)) hL)
  have hsplit : st.map (x_cv E.2.2.1 E.2.2.2) = ((st.take b).reverse.map (x_cv E.2.2.1 E.2.2.2)).reverse ++ (st.drop b).map (x_cv E.2.2.1 E.2.2.2) := by
    rw [← List.map_reverse, List.reverse_reverse, ← List.map_append, List.take_append_drop]
  have hlen : (st.take b).reverse.length = b := by simp [hb]
  have S : CallFix p m c (x_b mi) (x_ml mi) s args x_gw (x_y mi).cls := ⟨hx, hbb, hml, hown, hts⟩
  cases hst : x_stat a with
  | true =>
    have hk2 : kind = 2 ∧ (parseMethodDescriptor (x_y a).desc).map (fun d => d.parameters.length) = some b := by
      rcases hins with ⟨rfl, -⟩ | ⟨rfl, -⟩ | ⟨rfl, -⟩
      · simp [hst] at hkd
      · simp [hst] at hkd
      · simp [hst] at hkd; exact ⟨rfl, by simpa using hkd⟩
    obtain ⟨rfl, hpar⟩ := hk2
    obtain rfl : ins = .invokestatic idx := by
      rcases hins with ⟨h, -⟩ | ⟨h, -⟩ | ⟨-, h⟩
      · cases h
      · cases h
      · exact h
    have hsb : (Cond.static (x_y a)).before args s = true := x_wd hts (hstat hst) rfl
    have hnp : ∀ sig, parseMethodDescriptor (x_y a).desc = some sig → b = sig.parameters.length := fun sig h => by rw [h] at hpar; exact (Option.some.inj hpar).symm
    have hpre : PreS s H (x_Pre E X G (st.take b).reverse) ((st.take b).reverse.map (x_cv E.2.2.1 E.2.2.2)) := ⟨x_Pre_blind _, fun U hU hW => x_Pre_at hK hF hH hS rfl U hU hW⟩
    rcases hlink with hlink | ⟨host, hlink⟩
    · exact hfin rfl (va_runS S hM ⟨⟨rfl, rfl, hroom.1, hroom.2, hwarm, hcin, hcodeb, hinib, hcn, hnp, hlink⟩, hsb⟩ hpre rfl (by simpa using hlen) hsz hsplit hW8 hd ⟨hcc, hss⟩)
    · exact hfin rfl (va_runSN S hM ⟨⟨⟨rfl, rfl, hroom.1, hroom.2, hwarm, hcin⟩, hcodeb, hinib, hcn, hnp, hlink⟩, hsb, trivial⟩ hpre rfl (by simpa using hlen) hsz hsplit hW8 hd ⟨hcc, hss⟩)
  | false =>
    obtain ⟨him, hsel⟩ := hinst hst
    have himb : (Cond.instanceMethod (x_y a)).before args s = true := x_wd hts him rfl
    have hrc : x_rcv a G (st.take b).reverse = true := hrcv.resolve_left (by rw [hst]; decide)
    -- the receiver
    obtain ⟨rv, As, has, hcellB, hrvr⟩ : ∃ rv As, (st.take b).reverse = rv :: As ∧ (∀ bb, x_cv E.2.2.1 E.2.2.2 rv = .ref bb → ∃ cellB : Cell, H[bb]? = some cellB ∧ cellB.vm.isStatics = false ∧ s.vm.findClass (x_y a).cls = some cellB.cls) ∧ ∃ bb, x_cv E.2.2.1 E.2.2.2 rv = .ref bb := by
      unfold x_rcv at hrc
      split at hrc
      · next k0 r0 heq =>
        refine ⟨_, _, heq, ?_, _, rfl⟩
        intro bb hbb
        cases hbb
        split at hrc
        · next ci hci =>
          simp only [Bool.and_eq_true, beq_iff_eq, decide_eq_true_eq] at hrc
          obtain ⟨rfl, hlt2⟩ := hrc
          obtain ⟨cell, q1, q2, q3, -⟩ := hH.2 _ _ hci
          refine ⟨cell, q1, by rw [q3]; rfl, ?_⟩
          have hvw : (vwCl[x_mci a]?).map (fun q => q.1) = some (x_y a).cls := by
            rcases hcls with h99 | ⟨h100, -⟩ | hvw
            · omega
            · omega
            · exact hvw
          cases hq : vwCl[x_mci a]? with
          | none => rw [hq] at hvw; cases hvw
          | some qq =>
            rw [hq] at hvw
            have hnm : qq.1 = (x_y a).cls := Option.some.inj hvw
            rw [q2, ← hnm]
            exact (hK.1 _ _ hq).2.1
        · cases hrc
      · next i r0 heq =>
        simp only [Bool.and_eq_true, beq_iff_eq] at hrc
        obtain ⟨rfl, h100⟩ := hrc
        obtain ⟨qa, g1, -, g0⟩ := hF.2.2.2.2.1
        refine ⟨_, _, heq, ?_, qa, x_cv_ext g1⟩
        intro bb hbb
        rw [x_cv_ext g1] at hbb
        cases hbb
        have hstr : (x_y a).cls = "java/lang/String" := by
          rcases hcls with h99 | ⟨-, h⟩ | hvw
          · omega
          · exact h
          · rw [h100, List.getElem?_eq_none (by simp [vwCl])] at hvw; cases hvw
        obtain ⟨cell2, f1, f2, f3, f4⟩ := g0.kept hS.2.1
        exact ⟨cell2, f1, f2, by rw [hstr]; exact f3⟩
      · cases hrc
    obtain ⟨bb, hbb⟩ := hrvr
    have hcb := hcellB bb hbb
    have hpre : PreV s H (x_y a).cls bb (x_Pre E X G (st.take b).reverse) (As.map (x_cv E.2.2.1 E.2.2.2)) := ⟨x_Pre_blind _, hcb, fun U hU hW => x_Pre_at hK hF hH hS (by rw [has, List.map_cons, hbb]) U hU hW⟩
    have hsp : st.map (x_cv E.2.2.1 E.2.2.2) = (As.map (x_cv E.2.2.1 E.2.2.2)).reverse ++ .ref bb :: (st.drop b).map (x_cv E.2.2.1 E.2.2.2) := by
      rw [hsplit, has, List.map_cons, hbb, List.reverse_cons, List.append_assoc]; rfl
    have hAl : As.length + 1 = b := by rw [← hlen, has]; rfl
    have hav : (Value.ref bb :: As.map (x_cv E.2.2.1 E.2.2.2)).toArray = ((st.take b).reverse.map (x_cv E.2.2.1 E.2.2.2)).toArray := by rw [has, List.map_cons, hbb]
    rcases hins with ⟨rfl, rfl⟩ | ⟨rfl, rfl⟩ | ⟨rfl, rfl⟩
    · simp [hst] at hkd
      have hnp : ∀ sig, parseMethodDescriptor (x_y a).desc = some sig → b - 1 = sig.parameters.length := fun sig h => by
        have h1 := hkd.1; rw [h] at h1; simp at h1; omega
      have hselb : (Cond.selects (x_y a).cls (x_y a) (x_y a)).before args s = true := x_wd hts (hsel.resolve_left hkd.2) rfl
      rcases hlink with hlink | ⟨host, hlink⟩
      · exact hfin rfl (va_runV S hM ⟨⟨rfl, rfl, hroom.1, hroom.2, hwarm, hcin, hcodeb, hinib, hcn, hnp, hlink⟩, himb, hselb⟩ hpre rfl (by rw [List.length_map]; omega) hsz hsp hW8 hd ⟨hcc, hss⟩)
      · exact hfin rfl (va_runVN S hM ⟨⟨⟨rfl, rfl, hroom.1, hroom.2, hwarm, hcin⟩, hcodeb, hinib, hcn, hnp, hlink⟩, himb, hselb⟩ hpre rfl (by rw [List.length_map]; omega) hsz hsp hW8 hd ⟨hcc, hss⟩)
    · simp [hst] at hkd
      have hnp : ∀ sig, parseMethodDescriptor (x_y a).desc = some sig → b - 1 = sig.parameters.length := fun sig h => by
        have h1 := hkd.1.1; rw [h] at h1; simp at h1; omega
      have hrt : x_rt a = none := hkd.2
      rw [hrt] at hcodeb hcin
      have hpreS : PreS s H (x_Pre E X G (st.take b).reverse) (.ref bb :: As.map (x_cv E.2.2.1 E.2.2.2)) := ⟨x_Pre_blind _, fun U hU hW => x_Pre_at hK hF hH hS hav U hU hW⟩
      rcases hlink with hlink | ⟨host, hlink⟩
      · exact hfin rfl (va_runI S hM ⟨⟨rfl, rfl, hroom.1, hroom.2, hwarm, hcin, hcodeb, hinib, hcn, hnp, hlink⟩, hkd.1.2, himb⟩ hpreS rfl (by rw [List.length_map]; omega) hsz hsp hW8 hd ⟨hcc, hss⟩)
      · exact hfin rfl (va_runIN S hM ⟨⟨⟨rfl, rfl, hroom.1, hroom.2, hwarm, hcin⟩, hcodeb, hinib, hcn, hnp, hlink⟩, hkd.1.2, himb⟩ hpreS rfl (by rw [List.length_map]; omega) hsz hsp hW8 hd ⟨hcc, hss⟩)
    · simp [hst] at hkd
end XCALL
end
section
/-! ===== THE SHADOW MACHINE IS SOUND: what it runs to, the machine runs to ===== -/
theorem x_objC : lw_tbl[x_objpl.1]? = some (.instanceMethod Lib.objectInit) ∧ lw_tbl[x_objpl.2]? = some (.code Lib.objectInit ⟨#[0xb1]⟩ 1 none) := by decide +kernel
theorem x_cpyC : lw_tbl[x_cpypl.1]? = some (.native arraycopyName) ∧ lw_tbl[x_cpypl.2.1]? = some (.static arraycopyName) ∧ lw_tbl[x_cpypl.2.2]? = some (.initialized "java/lang/System") := by decide +kernel
theorem x_lvargs (bs : Nat) (xa : Nat → Option Nat) : ∀ (i : Nat) (as : List Value), lv_args i (as.map (x_cv bs xa)) = x_cl bs xa (lv_args i as)
  | _, [] => rfl
  | i, v :: as => by
    show (i, x_cv bs xa v) :: lv_args (if (x_cv bs xa v).category = 2 then i + 2 else i + 1) (as.map (x_cv bs xa)) = (i, x_cv bs xa v) :: x_cl bs xa (lv_args (if v.category = 2 then i + 2 else i + 1) as)
    rw [x_cv_cat, x_lvargs]
theorem x_lgsl (vs : List Value) : (lg_sl vs).length = x_words vs := by
  unfold lg_sl x_words
  induction vs with
  | nil => rfl
  | cons v vs ih =>
    rw [List.flatMap_cons, List.length_append, ih, List.map_cons, List.sum_cons]
    congr 1
    rcases lv_cat v with h | h <;> simp [h]
theorem x_words_cv (bs : Nat) (xa : Nat → Option Nat) (vs : List Value) : x_words (vs.map (x_cv bs xa)) = x_words vs := by
  unfold x_words
  rw [List.map_map]
  congr 2
  funext v
  exact x_cv_cat _ _ v
theorem x_words_rev (vs : List Value) : x_words vs.reverse = x_words vs := by
  unfold x_words
  rw [List.map_reverse, List.sum_reverse]
theorem x_ret_len {rt : Option FieldType} {ins : Instr} {st : List Value} {v : Option Value} (h : x_ret rt ins st = some v) : x_cat ins = 5 := by
  unfold x_ret at h
  split at h
  · rfl
  · rfl
  · rfl
  · cases h
theorem x_maxC : lw_tbl[x_mmaxpl.1]? = some (.static Lib.Math.max.name) ∧ lw_tbl[x_mmaxpl.2.1]? = some (.initialized "java/lang/Math") ∧ lw_tbl[x_mmaxpl.2.2]? = some (.code Lib.Math.max.name Lib.Math.max.code 2 (some .int)) := by decide +kernel
theorem x_minC : lw_tbl[x_mminpl.1]? = some (.static Lib.Math.min.name) ∧ lw_tbl[x_mminpl.2.1]? = some (.initialized "java/lang/Math") ∧ lw_tbl[x_mminpl.2.2]? = some (.code Lib.Math.min.name Lib.Math.min.code 2 (some .int)) := by decide +kernel
section XSND
variable {X : x_Ext} {E : x_Ad}
set_option maxHeartbeats 4000000 in
theorem x_sound (hC : x_CHK) : ∀ (n d mi pc : Nat) (lo : x_Lo) (st : List Value) (G : x_G) (v : Option Value) (Gf : x_G), x_exec X n d mi pc lo st G = some (v, Gf) →
    ∀ {p : Program} {l : Launch} {e : Env} {R : Room} {s : State} {m : MethodId} {args : Array Value} {below : List Frame} {meth : Method} {c : Code} {H : Heap} {locs : List Loc} {cells slots : Nat} {Q : State → Prop} {ls : Array Slot} {fc fs : Nat},
    x_Cx p s m args meth c mi → x_KA E s → x_XF E X s → x_HR E G H → va_S (x_Ao E) s.heap H locs → lv_has ls (x_ml mi) (x_cl E.2.2.1 E.2.2.2 lo) → d ≤ R.frames → 64 * d ≤ R.locals →
    fc + G.1.length = cells + Gf.1.length → fs + x_nS G = slots + x_nS Gf → fc ≤ R.cells → fs ≤ R.slots →
    (∀ (pc' : Nat) (ls' : Array Slot) (st' : List Value) (H' : Heap) (locs' : List Loc) (ins : Instr), decode (x_b mi) pc' = .ok (ins, 1) → x_ret (x_rt mi) ins st' = some v → x_HR E Gf H' → va_S (x_Ao E) s.heap H' locs' → W p l e R s m args below meth c H' locs' fc fs Q (F0 m pc' ls' (st'.map (x_cv E.2.2.1 E.2.2.2)))) →
    W p l e R s m args below meth c H locs cells slots Q (F0 m pc ls (st.map (x_cv E.2.2.1 E.2.2.2))) := by
  intro n
  induction n with
  | zero => intro d mi pc lo st G v Gf h; cases h
  | succ n ih =>
    intro d mi pc lo st G v Gf h p l e R s m args below meth c H locs cells slots Q ls fc fs C0 hK hF hH hS hl hfr hlo hfc hfs hcR hsR fin
    have C00 := C0
    obtain ⟨hx, hb, hml, hown, hts, hinit⟩ := C00
    unfold x_exec at h
    split at h
    · cases h
    · next ins len a b q z hrow =>
      have hchk := hC.1 mi pc _ hrow
      simp only [x_chk, Bool.and_eq_true, decide_eq_true_eq] at hchk
      obtain ⟨⟨hdec, hO⟩, hw⟩ := hchk
      have hlen : ∀ {k : Nat}, x_cat ins = k → k ≠ 2 → len = x_len ins := by
        intro k hk h2
        unfold x_chkO at hO
        rw [if_neg (by rw [hk]; exact h2)] at hO
        exact decide_eq_true_eq.mp hO
      split at h
      · next hcat =>
        have hl2 := hlen hcat (by decide)
        subst hl2
        split at h
        · next st' hst =>
          exact x_alu_ok hx hb hdec hst (ih _ _ _ _ _ _ _ _ h C0 hK hF hH hS hl hfr hlo hfc hfs hcR hsR fin)
        · cases h
      · next hcat =>
        have hl2 := hlen hcat (by decide)
        subst hl2
        split at h
        · next lo' st' hst =>
          exact x_loc_ok hx hb hdec hst hl fun ls' hl' => ih _ _ _ _ _ _ _ _ h C0 hK hF hH hS hl' hfr hlo hfc hfs hcR hsR fin
        · cases h
      · next hcat =>
        unfold x_chkO at hO
        rw [if_pos hcat] at hO
        split at h
        · next pc' st' hst =>
          refine x_br_ok hx hb hF.2.2.2.2.2 hdec (fun hne => ?_) (fun o ho => ?_) hst (ih _ _ _ _ _ _ _ _ h C0 hK hF hH hS hl hfr hlo hfc hfs hcR hsR fin)
          · split at hO
            · simp only [Bool.and_eq_true, decide_eq_true_eq] at hO; exact hO.1
            · next hn => exact absurd hn hne
          · rw [ho] at hO
            simp only [Bool.and_eq_true, decide_eq_true_eq] at hO; exact hO.2
        · cases h
      · next hcat =>
        have hl2 := hlen hcat (by decide)
        subst hl2
        split at h
        · next st' G' hst =>
          have hle := x_exec_le _ _ _ _ _ _ _ _ _ h
          have hle0 := x_heap_le hst
          obtain ⟨c', hc'⟩ : ∃ c', c' + G.1.length = cells + G'.1.length := ⟨cells + G'.1.length - G.1.length, by omega⟩
          obtain ⟨s', hs'⟩ : ∃ s', s' + x_nS G = slots + x_nS G' := ⟨slots + x_nS G' - x_nS G, by omega⟩
          exact x_heap_ok C0 hK hF hH hS hdec hw hst hc' hs' (by omega) (by omega) fun H1 locs1 hH1 hS1 => ih _ _ _ _ _ _ _ _ h C0 hK hF hH1 hS1 hl hfr hlo (by omega) (by omega) hcR hsR fin
        · cases h
      · next hcat =>
        have hl2 := hlen hcat (by decide)
        have hl3 : len = 3 := by rw [hl2]; cases ins <;> first | rfl | (simp [x_cat] at hcat)
        subst hl3
        split at h
        · next ha =>
          -- Object.<init>
          subst ha
          split at h
          · next k0 r =>
            split at h
            · next hdr =>
              obtain ⟨i0, rfl, hlk⟩ : ∃ i0, ins = .invokespecial i0 ∧ lw_tbl[q]? = some (.methodLink (x_y mi).cls i0 Lib.objectInit) := by
                cases ins <;> first | (simp [x_cat] at hcat; done) | skip
                all_goals (unfold x_chkW at hw; dsimp only at hw; unfold x_chkC at hw; rw [if_pos rfl] at hw)
                · simp only [Bool.and_eq_true] at hw
                  have hw := hw.2
                  split at hw
                  · next own i y e2 =>
                    simp only [Bool.and_eq_true, decide_eq_true_eq] at hw
                    obtain ⟨⟨rfl, rfl⟩, rfl⟩ := hw
                    exact ⟨_, rfl, e2⟩
                  · cases hw
                · simp at hw
                · simp at hw
              have hr8 := hdr.2
              refine W.objInit hx hb hown (x_wd hts hlk rfl) (x_wd hts x_objC.1 rfl) (x_wd hts x_objC.2 rfl) rfl (by rw [hml]; exact hl.1) rfl hdec (by omega) ?_ ?_
              · have := x_words_cv E.2.2.1 E.2.2.2 r
                unfold x_words at this hr8
                show 2 * 0 + _ + 12 ≤ _
                omega
              · exact ih _ _ _ _ _ _ _ _ h C0 hK hF hH hS hl hfr hlo hfc hfs hcR hsR fin
            · cases h
          · cases h
        · next ha =>
          split at h
          · next ha1 =>
            subst ha1
            split at h
            · next n' dp k1 sp k0 =>
              split at h
              · next t0 n0 t1 n1 hk0 hk1 =>
                split at h
                · next hcond =>
                  obtain ⟨rfl, ht2, hd1, h1, h2, h3, h4, h5⟩ := hcond
                  obtain ⟨i0, rfl, hlk⟩ : ∃ i0, ins = .invokestatic i0 ∧ lw_tbl[q]? = some (.methodLink (x_y mi).cls i0 arraycopyName) := by
                    cases ins <;> first | (simp [x_cat] at hcat; done) | skip
                    all_goals (unfold x_chkW at hw; dsimp only at hw; unfold x_chkC at hw; rw [if_neg (by decide), if_pos rfl] at hw)
                    · simp at hw
                    · simp only [Bool.and_eq_true] at hw
                      have hw := hw.2
                      split at hw
                      · next own i y e2 =>
                        simp only [Bool.and_eq_true, decide_eq_true_eq] at hw
                        obtain ⟨⟨rfl, rfl⟩, rfl⟩ := hw
                        exact ⟨_, rfl, e2⟩
                      · cases hw
                    · simp at hw
                  refine x_cpy_ok hx hb (by rw [hml]; exact hl.1.symm) hK hH hown (x_wd hts hlk rfl) (x_wd hts x_cpyC.1 rfl) (x_wd hts x_cpyC.2.1 rfl) (x_wd hts x_cpyC.2.2 rfl) ht2 hk0 hk1 h1 h2 h3 h4 h5 (by omega) (by omega) hdec fun H1 L hL hH1 hlow => ?_
                  refine ih _ _ _ _ _ _ _ _ h C0 hK hF hH1 (x_S_step hS (by rw [hH1.1, hH.1, x_cpy_1]; exact Nat.le_refl _) hlow (fun zz hz => by rw [hL zz hz]; omega)) hl hfr hlo (by rw [x_cpy_1]; exact hfc) (by rw [x_nS_eq (x_cpy_1 _ _ _ _ _ _ _)]; exact hfs) hcR hsR fin
                · cases h
              · cases h
            · cases h
          · next ha1 =>
            split at h
            · next ha2 =>
              split at h
              · next y x r =>
                split at h
                · next hdr =>
                  obtain ⟨i0, rfl, hlk⟩ : ∃ i0, ins = .invokestatic i0 ∧ lw_tbl[q]? = some (.methodLink (x_y mi).cls i0 (if a = 1002 then Lib.Math.max.name else Lib.Math.min.name)) := by
                    cases ins <;> first | (simp [x_cat] at hcat; done) | skip
                    all_goals (unfold x_chkW at hw; dsimp only at hw; unfold x_chkC at hw; rw [if_neg ha, if_neg ha1, if_pos ha2] at hw)
                    · simp at hw
                    · simp only [Bool.and_eq_true] at hw
                      have hw := hw.2
                      split at hw
                      · next own i y e2 =>
                        simp only [Bool.and_eq_true, decide_eq_true_eq] at hw
                        obtain ⟨⟨rfl, rfl⟩, rfl⟩ := hw
                        exact ⟨_, rfl, e2⟩
                      · cases hw
                    · simp at hw
                  have hr8 := hdr.2
                  have hrw := x_words_cv E.2.2.1 E.2.2.2 r
                  unfold x_words at hrw hr8
                  have hle2 := x_exec_le _ _ _ _ _ _ _ _ _ h
                  have hk := ih _ _ _ _ _ _ _ _ h C0 hK hF hH hS hl hfr hlo hfc hfs hcR hsR fin
                  rcases ha2 with rfl | rfl
                  · rw [if_pos rfl] at hlk
                    exact va_mmax hx hb (by rw [hml]; exact hl.1.symm) hown (x_wd hts hlk rfl) (x_wd hts x_maxC.1 rfl) (x_wd hts x_maxC.2.1 rfl) (x_wd hts x_maxC.2.2 rfl) (by omega) (by omega) (by omega) (by omega) hdec hk
                  · rw [if_neg (by decide)] at hlk
                    exact va_mmin hx hb (by rw [hml]; exact hl.1.symm) hown (x_wd hts hlk rfl) (x_wd hts x_minC.1 rfl) (x_wd hts x_minC.2.1 rfl) (x_wd hts x_minC.2.2 rfl) (by omega) (by omega) (by omega) (by omega) hdec hk
                · cases h
              · cases h
            · next ha2 =>
              split at h
              · next hcond =>
                split at h
                · next v1 G1 hcall =>
                  obtain ⟨hd1, hbl, hr8, hwm, hrcv⟩ := hcond
                  have hle1 := x_exec_le _ _ _ _ _ _ _ _ _ hcall
                  have hle2 := x_exec_le _ _ _ _ _ _ _ _ _ h
                  obtain ⟨idx, kind, hins, hwc⟩ : ∃ idx kind, ((kind = 0 ∧ ins = .invokevirtual idx) ∨ (kind = 1 ∧ ins = .invokespecial idx) ∨ (kind = 2 ∧ ins = .invokestatic idx)) ∧ x_chkC (x_y mi) idx a b q kind = true := by
                    cases ins <;> first | (simp [x_cat] at hcat; done) | skip
                    · exact ⟨_, 1, Or.inr (Or.inl ⟨rfl, rfl⟩), hw⟩
                    · exact ⟨_, 2, Or.inr (Or.inr ⟨rfl, rfl⟩), hw⟩
                    · exact ⟨_, 0, Or.inl ⟨rfl, rfl⟩, hw⟩
                  have halt : a < n_L_law := by
                    unfold x_chkC at hwc
                    rw [if_neg ha, if_neg ha1, if_neg ha2] at hwc
                    simp only [Bool.and_eq_true, decide_eq_true_eq] at hwc
                    exact hwc.1.1
                  have hMa := x_chkM_spec (hC.2 a halt)
                  obtain ⟨mc, hmc⟩ : ∃ mc, mc + G.1.length = G1.1.length := ⟨G1.1.length - G.1.length, by omega⟩
                  obtain ⟨ms, hms⟩ : ∃ ms, ms + x_nS G = x_nS G1 := ⟨x_nS G1 - x_nS G, by omega⟩
                  have hM : Met l (x_y a) (x_wsm a) ({ frames := d - 1, cells := mc, slots := ms, locals := 64 * (d - 1) } : Room) (x_Pre E X G (st.take b).reverse) (x_Post E G1 v1) mc ms (x_Ao E) := by
                    refine Met.ofW (cc := x_b a) (maxL := x_ml a) (ret := x_rt a) hMa.1 rfl ?_
                    intro p e s m args below meth c s₁ B hml' hv
                    obtain ⟨rfl, hK', hH', hF'⟩ := hv
                    have hts' := atoms_spec (ws := x_wsm a) B.pre
                    have hown' : s.vm.findClass (x_y a).cls = some m.cls := findClass_of_methodNamed B.named
                    have hr' := B.returns
                    have hlk' := B.notSynchronized
                    rw [lg_entry_eq]
                    have hl' := lv_entry ((st.take b).reverse.map (x_cv E.2.2.1 E.2.2.2)) (n := x_ml a) (by rw [x_lgsl, x_words_cv, x_words_rev]; exact hwm)
                    rw [x_lvargs] at hl'
                    have hS' : va_S (x_Ao E) s.heap s.heap [] := va_S.rf
                    refine ih (d - 1) a 0 (lv_args 0 (st.take b).reverse) [] G v1 G1 hcall (cells := 0) (slots := 0) (fc := mc) (fs := ms) ⟨B.exec, B.bytes, hml', hown', fun w hw => hts' w (List.mem_cons_of_mem _ hw), fun hn => by rw [← hn]; exact (name_of_methodNamed B.named B.method).1⟩ hK' hF' hH' hS' hl' (Nat.le_refl _) (Nat.le_refl _) (by omega) (by omega) (Nat.le_refl _) (Nat.le_refl _) ?_
                    intro pc' ls' st' H' locs' ins' hdec' hret hH'' hS''
                    have hpost : ∀ t : State, t.heap = H' → s.WarmedH t.vm → x_Post E G1 v1 ((st.take b).reverse.map (x_cv E.2.2.1 E.2.2.2)).toArray s (.returned (v1.map (x_cv E.2.2.1 E.2.2.2))) t := fun t ht _ => ⟨rfl, by rw [ht]; exact hH'', hS''.F ht⟩
                    unfold x_ret at hret
                    split at hret
                    · split at hret
                      · next hrt => cases hret; rw [hrt] at hr'; exact W.iret B.exec B.bytes hr' hpost hS''.2.2 hdec'
                      · next hrt =>
                        split at hret
                        · next hx01 => cases hret; rw [hrt] at hr'; exact W.zret B.exec B.bytes hr' (by rcases hx01 with rfl | rfl <;> rfl) hpost hS''.2.2 hdec'
                        · cases hret
                      · next hrt =>
                        split at hret
                        · next hnn => cases hret; rw [hrt] at hr'; exact W.zret B.exec B.bytes hr' hnn hpost hS''.2.2 hdec'
                        · cases hret
                      · next hrt =>
                        split at hret
                        · next hnn => cases hret; rw [hrt] at hr'; exact W.zret B.exec B.bytes hr' hnn hpost hS''.2.2 hdec'
                        · cases hret
                      · cases hret
                    · split at hret
                      · next hrt => cases hret; rw [hrt] at hr'; exact W.lret B.exec B.bytes hr' hpost hS''.2.2 hdec'
                      · cases hret
                    · split at hret
                      · next hrt => cases hret; rw [hrt] at hr'; exact W.vret B.exec B.bytes hr' hpost hS''.2.2 hdec'
                      · cases hret
                    · cases hret
                  exact x_call_ok C0 hK hF hH hS hl.1 hins hdec hwc ha ha1 ha2 hC.2 hd1 hbl hr8 hrcv hM hfr hlo (by omega) (by omega) fun H1 locs1 hH1 hS1 => ih _ _ _ _ _ _ _ _ h C0 hK hF hH1 hS1 hl hfr hlo (by omega) (by omega) hcR hsR fin
                · cases h
              · cases h
      · split at h
        · next v' hret =>
          cases h
          have hcat := x_ret_len hret
          have hl2 := hlen hcat (by decide)
          have hl1 : len = 1 := by rw [hl2]; cases ins <;> first | rfl | (simp [x_cat] at hcat)
          subst hl1
          obtain rfl : fc = cells := by omega
          obtain rfl : fs = slots := by omega
          exact fin pc ls st H locs ins hdec hret hH hS
        · cases h
end XSND
end
section
theorem x_CHK_ok : x_CHK := sorry
end
section
/-! ===== the start: what the Statement says of the tables and of the things outside ===== -/
def x_flat : List Cond := flatC (Jvm.Cond.and given_1 narrow_1)
def x_kwd (i : Nat) : Term := .static "HornBridge$Keyword" (x_kwn.getD i "") "LHornBridge$Keyword;"
def x_kws : Term := .static "HornBridge$Tokens" "KEYWORDS" "[LHornBridge$Keyword;"
def x_str : Term := .string RX12 x_keyix
theorem x_s1 : ∀ i, i < 27 → Cond.exactly (x_kwd i) "HornBridge$Keyword" ∈ x_flat := by decide +kernel
theorem x_s2 : ∀ i, i < 27 → Cond.eq (.field (x_kwd i) "HornBridge$Keyword" "letters" "J") (.long (x_kwl.getD i 0)) ∈ x_flat := by decide +kernel
theorem x_s3 : ∀ i, i < 27 → Cond.eq (.elem x_kws (.int (Int32.ofNat i))) (x_kwd i) ∈ x_flat := by decide +kernel
theorem x_s4 : Cond.arrayOf x_kws (.object "HornBridge$Keyword") ∈ x_flat ∧ Cond.eq (.length x_kws) (.int (Int32.ofNat 27)) ∈ x_flat := by decide +kernel
theorem x_s5 : Cond.exactly x_str "java/lang/String" ∈ x_flat ∧ Cond.eq (.field x_str "java/lang/String" "coder" "B") (.int 0) ∈ x_flat ∧ Cond.arrayOf (.field x_str "java/lang/String" "value" "[B") .byte ∈ x_flat ∧ Cond.eq (.length (.field x_str "java/lang/String" "value" "[B")) (.int (Int32.ofNat x_keys.length)) ∈ x_flat := by decide +kernel
def x_s6p : List Nat := [165, 166, 167, 168, 169, 170, 171, 172, 173, 174, 175, 176, 177, 178, 179, 180, 181, 182, 183, 184, 185, 186, 187, 188, 189, 190, 191, 192, 193, 194, 195, 196, 197, 198, 199, 200, 201, 202, 203, 204, 205, 206, 207, 208, 209, 210, 211, 212, 213, 214, 215, 216, 217, 218, 219, 220, 221, 222, 223, 224, 225, 226, 227, 228, 229, 230, 231, 232, 233, 234, 235, 236, 237, 238, 239, 240, 241, 242, 243, 244, 245, 246, 247, 248, 249, 250, 251, 252, 253, 254, 255, 256, 257, 258, 259, 260, 261, 262, 263, 264, 265, 266, 267, 268, 269, 270, 271, 272, 273, 274, 275, 276, 277, 278, 279, 280, 281, 282, 283, 284, 285, 286, 287, 288, 289, 290, 291, 292, 293, 294, 295, 296, 297, 298, 299, 300, 301, 302]
theorem x_s6L : x_s6p.map (fun i => x_flat[i]?) = (List.range x_keys.length).map (fun j => some (Cond.eq (.elem (.field x_str "java/lang/String" "value" "[B") (.int (Int32.ofNat j))) (.int (x_keys.getD j 0)))) := by decide +kernel
theorem x_s6 (j : Nat) (hj : j < x_keys.length) : Cond.eq (.elem (.field x_str "java/lang/String" "value" "[B") (.int (Int32.ofNat j))) (.int (x_keys.getD j 0)) ∈ x_flat := by
  have h := congrArg (fun l => l[j]?) x_s6L
  simp only [List.getElem?_map, List.getElem?_range hj, Option.map_some] at h
  cases hp : x_s6p[j]? with
  | none => rw [hp] at h; cases h
  | some i =>
    rw [hp] at h
    exact List.mem_of_getElem? (Option.some.inj h)
theorem x_keyL : ([x_keys.length] : List Nat).getD 0 0 < 2 ^ 31 := by decide +kernel
theorem x_xn2 {b : Nat} (h0 : b = 0 → False) (h1 : b = 1 → False) : x_xn b = ("java/lang/String", "coder", "B") := by
  match b, h0, h1 with
  | 0, h0, _ => exact absurd rfl h0
  | 1, _, h1 => exact absurd rfl h1
  | b + 2, _, _ => rfl
theorem x_s7 : lw_tbl[x_keyplace]? = some (.stringRef RX12 x_keyix x_keytx) := by decide +kernel
/-- statics: what kind of thing each holds -/
def x_stk (s : String × String × String × Value × Nat × Nat) : Bool := decide (lw_tbl[s.2.2.2.2.1]? = some (.laysStatic s.1 s.2.1 s.2.2.1)) && decide (lw_tbl[s.2.2.2.2.2]? = some (.initialized s.1)) && (match s.2.2.2.1 with
  | .int z => decide (Cond.eq (.static s.1 s.2.1 s.2.2.1) (.int z) ∈ x_flat)
  | .retAddr i => if i < 27 then decide (Term.static s.1 s.2.1 s.2.2.1 = x_kwd i) else if i = 27 then decide (Term.static s.1 s.2.1 s.2.2.1 = x_kws) else decide (i = 41) && decide (Cond.isRef (.static s.1 s.2.1 s.2.2.1) ∈ x_flat) && decide (s.1 = "jdk/internal/util/Preconditions") && decide (s.2.1 = "SIOOBE_FORMATTER") && decide (s.2.2.1 = "Ljava/util/function/BiFunction;")
  | _ => false)
theorem x_s8 : x_sts.all x_stk = true := by decide +kernel
theorem x_s9 : ∀ i, i < 27 → ∀ j, j < 27 → x_kwl.getD i 0 = x_kwl.getD j 0 → i = j := by decide +kernel
theorem x_OF_inj {o n d : String} {v w : Value} {t : Nat} {A : Nat → Prop} {U : State} {H : Heap} (h1 : va_OF o n d v t A U H) (h2 : va_OF o n d w t A U H) : v = w := by
  obtain ⟨cf, k, i, f, cell, a1, -, a3, -, a5, -⟩ := h1
  obtain ⟨cf', k', i', f', cell', b1, -, b3, -, b5, -⟩ := h2
  cases a1.symm.trans b1
  cases a3.symm.trans b3
  exact Option.some.inj (a5.symm.trans b5)
theorem x_init {s : State} {args : Array Value} {b L : Nat} {xs : Nat → Int32} (hts : ∀ w ∈ lw_tbl, w.before args s = true) (hgv : (Jvm.Cond.and given_1 narrow_1).before args s = true) (hX : va_X b L xs s s.heap) (hL : L < 2 ^ 31) (hbl : b < s.heap.size) : ∃ E : x_Ad, E.2.2.1 = s.heap.size ∧ E.2.2.2 30 = some b ∧ x_KA E s ∧ x_XF E (L, xs) s := by
  have hs : ∀ c ∈ x_flat, c.before args s = true := flat_of_before _ hgv
  have hA : ∀ a : Nat, a < s.heap.size → ¬ (fun q => s.heap.size ≤ q) a := fun a h => Nat.not_le.mpr h
  have hgood : ∀ w ∈ x_gw, w.before args s = true := fun w hw => hts w (List.mem_filter.mp hw).1
  -- classes
  have hcl : ∀ ci : Nat, ∃ r : ClassId × (Nat → Nat), ∀ q, vwCl[ci]? = some q → u_Kn s q.1 q.2.1 q.2.2 r.1 r.2 := by
    intro ci
    cases hq : vwCl[ci]? with
    | none => exact ⟨(0, fun _ => 0), fun q h => by cases h⟩
    | some q0 =>
      obtain ⟨C, T, N⟩ := q0
      have hin := (x_ci0 ci C T N hq).1.2.2.2.2
      obtain ⟨cC, iS, hk⟩ := u_known (n := N) hgood hin (hts _ (List.mem_of_getElem? (x_cpl_ok ci C T N hq).1))
      exact ⟨(cC, iS), fun q h => by cases h; exact hk⟩
  obtain ⟨dr, hdr⟩ := Classical.axiomOfChoice hcl
  -- arrays
  have har : ∀ t : Nat, ∃ cA : ClassId, t < 7 → ArrOfT s cA (x_ety t) ∧ va_RA s cA (x_ety t) := by
    intro t
    by_cases ht : t < 4
    · obtain ⟨at_, hat, hty⟩ : ∃ at_, x_atn at_ = some t ∧ newarray.typeOf at_ = x_ety t := by
        obtain rfl | rfl | rfl | rfl : t = 0 ∨ t = 1 ∨ t = 2 ∨ t = 3 := by omega
        · exact ⟨.int, rfl, rfl⟩
        · exact ⟨.long, rfl, rfl⟩
        · exact ⟨.byte, rfl, rfl⟩
        · exact ⟨.boolean, rfl, rfl⟩
      have h := x_apl_ok hgood hat
      rw [hty] at h
      obtain ⟨cA, kA, comp, h1, h2, h3⟩ := Cond.arrayClass_spec h
      refine ⟨cA, fun _ => ⟨fun n z => ⟨(fun k h => by cases h), kA, h2, comp, h3⟩, ?_⟩⟩
      obtain rfl | rfl | rfl | rfl : t = 0 ∨ t = 1 ∨ t = 2 ∨ t = 3 := by omega
      all_goals exact h1
    · by_cases ht7 : t < 7
      · obtain ⟨C, hty⟩ : ∃ C, x_ety t = .object C := by
          obtain rfl | rfl | rfl : t = 4 ∨ t = 5 ∨ t = 6 := by omega
          all_goals exact ⟨_, rfl⟩
        have h1 := List.all_eq_true.mp x_apqC t (by
          obtain rfl | rfl | rfl : t = 4 ∨ t = 5 ∨ t = 6 := by omega
          all_goals simp)
        have h2 := hts _ (List.mem_of_getElem? (decide_eq_true_eq.mp h1))
        rw [hty] at h2
        obtain ⟨comp, cA, kA, f1, -, f3, f4, f5⟩ := Cond.arrayOver_spec h2
        rw [hty]
        exact ⟨cA, fun _ => ⟨fun n z => ⟨(fun k h => by cases h), kA, f3, comp, f4⟩, kA, comp, f3, f4, f1, f5⟩⟩
      · exact ⟨0, fun h => absurd h ht7⟩
  obtain ⟨tc, htc⟩ := Classical.axiomOfChoice har
  -- the words that are no names
  have hkw : ∀ i : Nat, ∃ a : Nat, i < 27 → (x_kwd i).eval args s none [] s = some (.ref a) ∧ a < s.heap.size := by
    intro i
    by_cases hi : i < 27
    · obtain ⟨a, c, cA, kA, q1, q2, q3, q4, q5, q6, -⟩ := Cond.exactly_spec (args := args) (first := s) (o := none) (s := s) (idx := []) (t := x_kwd i) (cls := "HornBridge$Keyword") (hs _ (x_s1 i hi))
      exact ⟨a, fun _ => ⟨q1, (Array.getElem?_eq_some_iff.mp q3).1⟩⟩
    · exact ⟨0, fun h => absurd h hi⟩
  obtain ⟨ka, hka⟩ := Classical.axiomOfChoice hkw
  have hOF : ∀ i, i < 27 → va_OF "HornBridge$Keyword" "letters" "J" (.long (x_kwl.getD i 0)) (ka i) (fun q => s.heap.size ≤ q) s s.heap := fun i hi => vk_OFof (hka i hi).1 (va_eqtl (hs _ (x_s2 i hi))) hA
  obtain ⟨k27, h27e, h27T⟩ := va_Tof (tm := x_kws) (ty := .object "HornBridge$Keyword") (N := 27) (f := fun j => .ref (ka j)) (A := fun q => s.heap.size ≤ q) (by decide) (hs _ x_s4.1) (va_eqt (hs _ x_s4.2)) (fun j hj => va_eqv (hs _ (x_s3 j hj)) (hka j hj).1) hA
  obtain ⟨adK, adV, hvS, hvE⟩ := vk_Sof (args := args) (s := s) (N := 1) (tm := fun _ => x_str) (len := [x_keys.length]) (byt := [x_keys]) (A := fun q => s.heap.size ≤ q) (fun i hi => by
    obtain rfl : i = 0 := by omega
    exact x_keyL) (fun i hi => hs _ x_s5.1) (fun i hi => hs _ x_s5.2.1) (fun i hi => hs _ x_s5.2.2.1) (fun i hi => by
    obtain rfl : i = 0 := by omega
    exact hs _ x_s5.2.2.2) (fun i hi j hj => by
    obtain rfl : i = 0 := by omega
    exact hs _ (x_s6 j hj)) (fun i j hi hj hne => absurd (show i = j by omega) hne) hA
  -- the formatter
  have hfm : ∃ fm : Option Nat, (Term.static "jdk/internal/util/Preconditions" "SIOOBE_FORMATTER" "Ljava/util/function/BiFunction;").eval args s none [] s = some (va_rf fm) ∨ ¬ (Cond.isRef (.static "jdk/internal/util/Preconditions" "SIOOBE_FORMATTER" "Ljava/util/function/BiFunction;")).before args s = true := by
    by_cases h : (Cond.isRef (.static "jdk/internal/util/Preconditions" "SIOOBE_FORMATTER" "Ljava/util/function/BiFunction;")).before args s = true
    · cases hv : (Term.static "jdk/internal/util/Preconditions" "SIOOBE_FORMATTER" "Ljava/util/function/BiFunction;").eval args s none [] s with
      | none => simp [Cond.before, Cond.holds, Cond.value, hv] at h
      | some w =>
        simp only [Cond.before, Cond.holds, Cond.value, hv] at h
        cases w with
        | null => exact ⟨none, Or.inl rfl⟩
        | ref t => exact ⟨some t, Or.inl rfl⟩
        | _ => simp at h
    · exact ⟨none, Or.inr h⟩
  obtain ⟨fm, hfm⟩ := hfm
  let xa : Nat → Option Nat := fun i => if i < 27 then some (ka i) else if i = 27 then some k27 else if i = 28 then some (adK 0) else if i = 29 then some (adV 0) else if i = 30 then some b else fm
  have xa27 : ∀ i, i < 27 → xa i = some (ka i) := fun i hi => if_pos hi
  refine ⟨((fun ci => (dr ci).1, fun ci => (dr ci).2), tc, s.heap.size, xa), rfl, rfl, ⟨fun ci q hq => hdr ci q hq, fun t ht => htc t ht⟩, ?_⟩
  obtain ⟨g1, g2, g3, g4⟩ := hvS.1 0 (by omega)
  refine ⟨fun w hw hn => ?_, fun a st hst => ?_, fun bb i v hv => ?_, fun i ty n f hf => ?_, ⟨adK 0, rfl, vk_R.of (hts _ (List.mem_of_getElem? x_s7)) (hvE 0 (by omega)), g1⟩, fun i hi => ⟨ka i, xa27 i hi, (hka i hi).2⟩, fun i j hi hj he => ?_⟩
  · have h1 := hts w hw
    unfold x_ngw at hn
    split at hn
    · exact va_Nw.of rfl h1
    · exact va_Nw.of rfl h1
    · exact h1
    · cases hn
  · have h1 := List.all_eq_true.mp x_s8 st (List.mem_of_getElem? hst)
    unfold x_stk at h1
    simp only [Bool.and_eq_true, decide_eq_true_eq] at h1
    obtain ⟨⟨hl1, hl2⟩, h3⟩ := h1
    obtain ⟨C, n, d, v, p1, p2⟩ := st
    refine va_Zof (hts _ (List.mem_of_getElem? hl1)) (hts _ (List.mem_of_getElem? hl2)) ?_ hA
    dsimp only at h3 ⊢
    cases v with
    | int z => exact va_eqt (hs _ (by simpa using h3))
    | retAddr i =>
      dsimp only at h3
      show (Term.static C n d).eval args s none [] s = some (va_rf (xa i))
      split at h3
      · next hi =>
        rw [decide_eq_true_eq.mp h3, xa27 i hi]
        exact (hka i hi).1
      · split at h3
        · next hi =>
          subst hi
          rw [decide_eq_true_eq.mp h3]
          exact h27e
        · simp only [Bool.and_eq_true, decide_eq_true_eq] at h3
          obtain ⟨⟨⟨⟨rfl, h5⟩, rfl⟩, rfl⟩, rfl⟩ := h3
          rcases hfm with h6 | h6
          · exact h6
          · exact absurd (hs _ h5) h6
    | _ => cases h3
  · unfold x_xf at hv
    split at hv
    · split at hv
      · next hi => cases hv; exact ⟨ka i, xa27 i hi, hOF i hi⟩
      · cases hv
    · split at hv
      · next hi => cases hv; subst hi; exact ⟨adK 0, rfl, g3⟩
      · cases hv
    · split at hv
      · next h0 h1 hi =>
        cases hv; subst hi
        refine ⟨adK 0, rfl, ?_⟩
        rw [x_xn2 h0 h1]
        exact g2
      · cases hv
  · unfold x_xar at hf
    split at hf
    · next hi =>
      cases hf; subst hi
      refine ⟨k27, rfl, ?_⟩
      obtain ⟨cell, a1, a2, a3, a4, a5, a6, a7⟩ := h27T
      exact ⟨cell, a1, a2, a3, a4, a5, fun j hj => (a6 j hj).trans (by show _ = some (va_rf (xa j)); rw [xa27 j hj]; rfl), a7⟩
    · split at hf
      · next hi => cases hf; subst hi; exact ⟨adV 0, rfl, g4⟩
      · split at hf
        · next hi =>
          cases hf; subst hi
          obtain ⟨scr, a1, a2, a3, a4, a5⟩ := hX
          exact ⟨b, rfl, scr, a1, a2, a3, Nat.le_of_eq a4.symm, congrArg Nat.toInt32 a4, a5, Nat.not_le.mpr hbl⟩
        · cases hf
  · have he' : ka i = ka j := by
      have h5 : xa i = xa j := he
      rw [xa27 i hi, xa27 j hj] at h5
      exact Option.some.inj h5
    have h1 := hOF i hi
    have h2 := hOF j hj
    rw [he'] at h1
    have h3 := x_OF_inj h1 h2
    exact x_s9 i hi j hj (by injection h3)
end
section
def R_law : String := "HornBridgeLaw"
def lw_P (b : Addr) (xs : List Int32) (args : Array Value) (s : State) : Prop := args = #[.ref b] ∧ s.IntsAt b xs ∧ xs.length ≤ 3072 ∧ (Jvm.Cond.and given_1 narrow_1).before args s = true
def lw_Q (_ : Array Value) (s : State) (o : Outcome) (t : State) : Prop := o = .returned (some (.int 1)) ∧ Framed s o t [] 600000 7302250
def lw_Z (below : List Frame) (a : Array Value) (s : State) : State → Prop := fun t => ∃ o, t.status = .running ∧ Ended t below o ∧ lw_Q a s o t
/-- the law's own end, with 1 on the stack, nothing written that was there before, its room as the claim has it -/
theorem lw_ret {p : Program} {l : Launch} {e : Env} {s : State} {m : MethodId} {below : List Frame} {meth : Method} {c : Code} {b : Nat} (hx : p.tables.exec = Jvm.exec) (hb : c.code = code) (hr : meth.sig.returnType = ret) (hlocks : meth.locks = false) {pc : Nat} {H : Heap} {ls : Array Slot} (hdg : decode code pc = .ok (.ireturn, 1)) : W p l e room_1 s m #[Value.ref b] below meth c H [] 600000 7302250 (lw_Z below #[Value.ref b] s) (F0 m pc ls [.int 1]) := by
  intro T hT X
  obtain ⟨fs, hret, hrun, hended, hW, hframe⟩ := X.leave (v := some (.int 1)) (hlocks := hlocks) (fun h => by rw [hr] at h; cases h)
  have hmeth' : T.vm.method? m = some meth := X.method'
  refine ⟨T.setFrames fs, ?_, .returned (some (.int 1)), hrun, hended, rfl, ⟨_, rfl⟩, hW, hframe⟩
  jvm_step X.here [X.here.top, hx, hb, hdg, hmeth', hr, ret, narrow_b1]
  (try refine ⟨rfl, ?_⟩); (try refine ⟨rfl, ?_⟩)
  first | (intro acts; rw [hret _ acts rfl rfl rfl]) | rw [hret _ _ rfl rfl rfl]
  exact Steps.refl _
/-- what holds at the law's entry: the machine, the code, the tables' words (any of lw_tbl by 'hts w (by decide +kernel)'), the script of L ints xs at the cell b, what the Statement gives of the start (any of its parts by flat_of_before) -/
def lw_At (p : Program) (s : State) (m : MethodId) (meth : Method) (c : Code) (b L : Nat) (xs : Nat → Int32) : Prop :=
  p.tables.exec = Jvm.exec ∧ c.code = code ∧ meth.sig.returnType = ret ∧ c.maxLocals = 4 ∧ s.vm.findClass R_law = some m.cls ∧ (∀ w ∈ lw_tbl, w.before #[Value.ref b] s = true) ∧ va_X b L xs s s.heap ∧ b < s.heap.size ∧ meth.locks = false ∧ (Jvm.Cond.and given_1 narrow_1).before #[Value.ref b] s = true
/-! ===== the law by the shadow machine ===== -/
def x_G0 : x_G := ([], fun _ _ => 0, fun _ _ => 0, fun _ _ => .null)
/-- what is left to show: the shadow machine runs the law to 1, on every script, in its room -/
def x_GOAL : Prop := ∀ (L : Nat) (xs : Nat → Int32), L ≤ 3072 → ∃ (n : Nat) (Gf : x_G), x_exec (L, xs) n 1000 n_L_law 0 [(0, .retAddr 30)] [] x_G0 = some (some (.int 1), Gf) ∧ Gf.1.length ≤ 600000 ∧ x_nS Gf ≤ 7302250
theorem x_law_inf : x_y n_L_law = yL_law ∧ x_b n_L_law = code ∧ x_ml n_L_law = 4 ∧ x_rt n_L_law = some .boolean := ⟨rfl, rfl, rfl, rfl⟩

theorem x_lawEnd {p : Program} {l : Launch} {e : Env} {s : State} {m : MethodId} {below : List Frame} {meth : Method} {c : Code} {b : Nat} {E : x_Ad} (hE1 : E.2.2.1 = s.heap.size) (hx : p.tables.exec = Jvm.exec) (hb : c.code = code) (hr : meth.sig.returnType = ret) (hlocks : meth.locks = false) {pc : Nat} {H : Heap} {locs : List Loc} {ls : Array Slot} {fc fs : Nat} (hS : va_S (x_Ao E) s.heap H locs) (h1 : fc ≤ 600000) (h2 : fs ≤ 7302250) (hdg : decode (x_b n_L_law) pc = .ok (.ireturn, 1)) : W p l e room_1 s m #[Value.ref b] below meth c H locs fc fs (lw_Z below #[Value.ref b] s) (F0 m pc ls ([.int 1].map (x_cv E.2.2.1 E.2.2.2))) := by
  refine va_forget (fun q hq => by rw [← hE1]; exact hS.2.2 q hq) ?_
  refine W.widen (k := 600000) (n := 7302250) h1 h2 ?_
  exact lw_ret hx hb hr hlocks (by rw [← x_law_inf.2.1]; exact hdg)

theorem x_whole (hgoal : x_GOAL) {p : Program} {e : Env} {s : State} {m : MethodId} {below : List Frame} {meth : Method} {c : Code} (l : Launch) (hflags : l.flags = flags0) {b L : Nat} {xs : Nat → Int32} (hL : L ≤ 3072) (C0 : lw_At p s m meth c b L xs) : W p l e room_1 s m #[Value.ref b] below meth c s.heap [] 0 0 (lw_Z below #[Value.ref b] s) (entryFrame m ([Value.ref b] : List Value).toArray 4) := by
  obtain ⟨hx, hb, hr, hml, hown, hts, hX, hbl, hlocks, hgv⟩ := id C0
  obtain ⟨E, hE1, hE2, hK, hF⟩ := x_init hts hgv hX (by omega) hbl
  obtain ⟨n, Gf, hex, hz1, hz2⟩ := hgoal L xs hL
  have hgood : ∀ w ∈ x_gw, w.before #[Value.ref b] s = true := fun w hw => hts w (List.mem_filter.mp hw).1
  have hl := lv_entry ([.ref b]) (n := 4) (Nat.le_of_ble_eq_true rfl)
  rw [lg_entry_eq]
  generalize (lg_sl ([.ref b]) ++ List.replicate (4 - (lg_sl ([.ref b])).length) Slot.unset).toArray = ls at hl ⊢
  have hl : lv_has ls (x_ml n_L_law) (x_cl E.2.2.1 E.2.2.2 [(0, .retAddr 30)]) := by
    rw [x_law_inf.2.2.1]
    have h1 : x_cl E.2.2.1 E.2.2.2 [(0, .retAddr 30)] = lv_args 0 [.ref b] := by
      show [(0, x_cv E.2.2.1 E.2.2.2 (.retAddr 30))] = [(0, .ref b)]
      rw [x_cv_ext hE2]
    rw [h1]
    exact hl
  have hH : x_HR E x_G0 s.heap := ⟨hE1.symm, fun k sh h => by simp [x_G0] at h⟩
  have hS : va_S (x_Ao E) s.heap s.heap [] := va_S.rf
  refine x_sound x_CHK_ok n 1000 n_L_law 0 _ [] x_G0 _ Gf hex (cells := 0) (slots := 0) (fc := Gf.1.length) (fs := x_nS Gf) ⟨hx, hb, by rw [hml]; exact x_law_inf.2.2.1.symm, hown, hgood, fun h => absurd h (by decide)⟩ hK hF hH hS hl (Nat.le_of_ble_eq_true rfl) (Nat.le_of_ble_eq_true rfl) (Nat.zero_add _).symm ((Nat.add_zero _).trans (Nat.zero_add _).symm) hz1 hz2 ?_
  intro pc' ls' st' H' locs' ins' hdec hret hH' hS'
  unfold x_ret at hret
  split at hret
  · split at hret
    · cases hret; exact x_lawEnd hE1 hx hb hr hlocks hS' hz1 hz2 hdec
    · split at hret
      · cases hret; exact x_lawEnd hE1 hx hb hr hlocks hS' hz1 hz2 hdec
      · cases hret
    · split at hret
      · cases hret; exact x_lawEnd hE1 hx hb hr hlocks hS' hz1 hz2 hdec
      · cases hret
    · split at hret
      · cases hret; exact x_lawEnd hE1 hx hb hr hlocks hS' hz1 hz2 hdec
      · cases hret
    · cases hret
  · split at hret
    · cases hret
    · cases hret
  · split at hret
    · cases hret
    · cases hret
  · cases hret
end
section
/-! ===== runs of the shadow machine, without their length ===== -/
theorem x_exec_mono {X : x_Ext} : ∀ (n d mi pc : Nat) (lo : x_Lo) (st : List Value) (G : x_G) (r : Option Value × x_G), x_exec X n d mi pc lo st G = some r → x_exec X (n + 1) d mi pc lo st G = some r := by
  intro n
  induction n with
  | zero => intro d mi pc lo st G r h; cases h
  | succ n ih =>
    intro d mi pc lo st G r h
    unfold x_exec at h
    unfold x_exec
    split at h
    · cases h
    · next ins len a b q z hrow =>
      (try rw [hrow]); (try dsimp only)
      split at h
      · next hc =>
        (try rw [hc]); (try dsimp only)
        split at h
        · next hh => (try rw [hh]); exact ih _ _ _ _ _ _ _ h
        · cases h
      · next hc =>
        (try rw [hc]); (try dsimp only)
        split at h
        · next hh => (try rw [hh]); exact ih _ _ _ _ _ _ _ h
        · cases h
      · next hc =>
        (try rw [hc]); (try dsimp only)
        split at h
        · next hh => (try rw [hh]); exact ih _ _ _ _ _ _ _ h
        · cases h
      · next hc =>
        (try rw [hc]); (try dsimp only)
        split at h
        · next hh => (try rw [hh]); exact ih _ _ _ _ _ _ _ h
        · cases h
      · next hc =>
        (try rw [hc]); (try dsimp only)
        split at h
        · next ha =>
          (try rw [if_pos ha])
          split at h
          · split at h
            · next hd => (try rw [if_pos hd]); exact ih _ _ _ _ _ _ _ h
            · cases h
          · cases h
        · next ha =>
          (try rw [if_neg ha])
          split at h
          · next ha1 =>
            (try rw [if_pos ha1])
            split at h
            · split at h
              · next e1 e2 =>
                (try rw [e1, e2]); (try dsimp only)
                split at h
                · next hd => (try rw [if_pos hd]); exact ih _ _ _ _ _ _ _ h
                · cases h
              · cases h
            · cases h
          · next ha1 =>
            (try rw [if_neg ha1])
            split at h
            · next ha2 =>
              (try rw [if_pos ha2])
              split at h
              · split at h
                · next hd => (try rw [if_pos hd]); exact ih _ _ _ _ _ _ _ h
                · cases h
              · cases h
            · next ha2 =>
              (try rw [if_neg ha2])
              split at h
              · next hd =>
                (try rw [if_pos hd])
                split at h
                · next hh =>
                  rw [ih _ _ _ _ _ _ _ hh]; (try dsimp only)
                  exact ih _ _ _ _ _ _ _ h
                · cases h
              · cases h
      · next h0 h1 h2 h3 h4 =>
        first
          | exact h
          | (split at h
             · next hh => (try rw [hh]); exact h
             · cases h)
theorem x_exec_le2 {X : x_Ext} {n m d mi pc : Nat} {lo : x_Lo} {st : List Value} {G : x_G} {r : Option Value × x_G} (h : x_exec X n d mi pc lo st G = some r) (hm : n ≤ m) : x_exec X m d mi pc lo st G = some r := by
  obtain ⟨k, rfl⟩ := Nat.le.dest hm
  clear hm
  induction k with
  | zero => exact h
  | succ k ih => exact x_exec_mono _ _ _ _ _ _ _ _ ih
/-- the run from here comes to an end of which P holds -/
def x_Ev (X : x_Ext) (d mi pc : Nat) (lo : x_Lo) (st : List Value) (G : x_G) (P : Option Value → x_G → Prop) : Prop := ∃ (n : Nat) (v : Option Value) (G' : x_G), x_exec X n d mi pc lo st G = some (v, G') ∧ P v G'
/-- a method's table, locals, result -/
def x_F (mi : Nat) (T : List (Nat × x_Row)) (ml : Nat) (rt : Option FieldType) : Prop := x_tab mi = T ∧ x_ml mi = ml ∧ x_rt mi = rt
/-- a method, called with these arguments -/
def x_Me (X : x_Ext) (d mi : Nat) (as : List Value) (G : x_G) (P : Option Value → x_G → Prop) : Prop := x_words as ≤ x_ml mi ∧ (x_stat mi = true ∨ x_rcv mi G as = true) ∧ x_Ev X d mi 0 (lv_args 0 as) [] G P
section XEV
variable {X : x_Ext} {d mi pc nx a b q len ml : Nat} {z : Int} {ins : Instr} {lo lo' : x_Lo} {st st' : List Value} {G G' : x_G} {P : Option Value → x_G → Prop} {T : List (Nat × x_Row)} {rt : Option FieldType}
theorem x_Ev.mono {P' : Option Value → x_G → Prop} (h : x_Ev X d mi pc lo st G P) (hp : ∀ v G', P v G' → P' v G') : x_Ev X d mi pc lo st G P' := by
  obtain ⟨n, v, G', h1, h2⟩ := h
  exact ⟨n, v, G', h1, hp _ _ h2⟩
theorem x_Me.mono {as : List Value} {P' : Option Value → x_G → Prop} (h : x_Me X d mi as G P) (hp : ∀ v G', P v G' → P' v G') : x_Me X d mi as G P' := ⟨h.1, h.2.1, h.2.2.mono hp⟩
theorem x_Frow (F : x_F mi T ml rt) {row : x_Row} (hr : T.lookup pc = some row) : x_row mi pc = some row := by
  unfold x_row; rw [F.1]; exact hr
theorem ev_alu (F : x_F mi T ml rt) (hr : T.lookup pc = some (ins, len, a, b, q, z)) (hc : x_cat ins = 0) (hs : x_alu ins st = some st') (hn : pc + len = nx) (k : x_Ev X d mi nx lo st' G P) : x_Ev X d mi pc lo st G P := by
  obtain ⟨n, v, G', h1, h2⟩ := k
  refine ⟨n + 1, v, G', ?_, h2⟩
  unfold x_exec; rw [x_Frow F hr]; dsimp only
  rw [hc]; (try dsimp only)
  rw [hs, hn]; exact h1
theorem ev_loc (F : x_F mi T ml rt) (hr : T.lookup pc = some (ins, len, a, b, q, z)) (hc : x_cat ins = 1) (hs : x_loc ml ins lo st = some (lo', st')) (hn : pc + len = nx) (k : x_Ev X d mi nx lo' st' G P) : x_Ev X d mi pc lo st G P := by
  obtain ⟨n, v, G', h1, h2⟩ := k
  refine ⟨n + 1, v, G', ?_, h2⟩
  unfold x_exec; rw [x_Frow F hr]; dsimp only
  rw [hc]; (try dsimp only)
  rw [F.2.1, hs, hn]; exact h1
theorem ev_jmp (F : x_F mi T ml rt) (hr : T.lookup pc = some (ins, len, a, b, q, z)) (hc : x_cat ins = 2) (hs : x_br a pc ins st = some (nx, st')) (k : x_Ev X d mi nx lo st' G P) : x_Ev X d mi pc lo st G P := by
  obtain ⟨n, v, G', h1, h2⟩ := k
  refine ⟨n + 1, v, G', ?_, h2⟩
  unfold x_exec; rw [x_Frow F hr]; dsimp only
  rw [hc]; (try dsimp only)
  rw [hs]; exact h1
theorem ev_if {C : Prop} [Decidable C] {t1 t2 : Nat} (F : x_F mi T ml rt) (hr : T.lookup pc = some (ins, len, a, b, q, z)) (hc : x_cat ins = 2) (hs : x_br a pc ins st = some (if C then t1 else t2, st')) (k1 : C → x_Ev X d mi t1 lo st' G P) (k2 : ¬ C → x_Ev X d mi t2 lo st' G P) : x_Ev X d mi pc lo st G P := by
  by_cases h : C
  · exact ev_jmp F hr hc (by rw [hs, if_pos h]) (k1 h)
  · exact ev_jmp F hr hc (by rw [hs, if_neg h]) (k2 h)
theorem ev_heap (F : x_F mi T ml rt) (hr : T.lookup pc = some (ins, len, a, b, q, z)) (hc : x_cat ins = 3) (hs : x_heap X a b z ins st G = some (st', G')) (hn : pc + len = nx) (k : x_Ev X d mi nx lo st' G' P) : x_Ev X d mi pc lo st G P := by
  obtain ⟨n, v, G', h1, h2⟩ := k
  refine ⟨n + 1, v, G', ?_, h2⟩
  unfold x_exec; rw [x_Frow F hr]; dsimp only
  rw [hc]; (try dsimp only)
  rw [hs, hn]; exact h1
theorem ev_ret {v : Option Value} (F : x_F mi T ml rt) (hr : T.lookup pc = some (ins, len, a, b, q, z)) (hc : x_cat ins = 5) (hs : x_ret rt ins st = some v) (k : P v G) : x_Ev X d mi pc lo st G P := by
  refine ⟨1, v, G, ?_, k⟩
  unfold x_exec; rw [x_Frow F hr]; dsimp only
  rw [hc]; (try dsimp only)
  rw [F.2.2, hs]
  rfl
theorem ev_obj {r : List Value} {k0 : Nat} (F : x_F mi T ml rt) (hr : T.lookup pc = some (ins, len, 1000, b, q, z)) (hc : x_cat ins = 4) (hd : 1 ≤ d) (h8 : x_words r ≤ 8) (hn : pc + 3 = nx) (k : x_Ev X d mi nx lo r G P) : x_Ev X d mi pc lo (.ref k0 :: r) G P := by
  obtain ⟨n, v, G', h1, h2⟩ := k
  refine ⟨n + 1, v, G', ?_, h2⟩
  unfold x_exec; rw [x_Frow F hr]; dsimp only
  rw [hc]; (try dsimp only)
  rw [if_pos rfl, if_pos ⟨hd, h8⟩, hn]; exact h1
theorem ev_mm {r : List Value} {x y : Int32} (F : x_F mi T ml rt) (hr : T.lookup pc = some (ins, len, a, b, q, z)) (hc : x_cat ins = 4) (ha : (decide (a = 1002) || decide (a = 1003)) = true) (hd : 1 ≤ d) (h8 : x_words r ≤ 8) (hn : pc + 3 = nx) (k : x_Ev X d mi nx lo (.int (x_mm a x y) :: r) G P) : x_Ev X d mi pc lo (.int y :: .int x :: r) G P := by
  obtain ⟨n, v, G', h1, h2⟩ := k
  refine ⟨n + 1, v, G', ?_, h2⟩
  have ha' : a = 1002 ∨ a = 1003 := by simpa using ha
  unfold x_exec; rw [x_Frow F hr]; dsimp only
  rw [hc]; (try dsimp only)
  rw [if_neg (by omega), if_neg (by omega), if_pos ha', if_pos ⟨hd, h8⟩, hn]; exact h1
/-- a call: what the callee's end says goes on -/
theorem ev_call {PC : Option Value → x_G → Prop} (F : x_F mi T ml rt) (hr : T.lookup pc = some (ins, len, a, b, q, z)) (hc : x_cat ins = 4) (ha : (decide (a < 1000)) = true) (hb : b ≤ st.length) (h8 : x_words (st.drop b) ≤ 8) (hM : x_Me X d a (st.take b).reverse G PC) (hn : pc + 3 = nx)
    (k : ∀ v G1, PC v G1 → x_Ev X (d + 1) mi nx lo (v.toList ++ st.drop b) G1 P) : x_Ev X (d + 1) mi pc lo st G P := by
  obtain ⟨hw, hrc, n1, v1, G1, h1, h2⟩ := hM
  obtain ⟨n2, v, G', h3, h4⟩ := k v1 G1 h2
  refine ⟨max n1 n2 + 1, v, G', ?_, h4⟩
  have ha' : a < 1000 := by simpa using ha
  unfold x_exec; rw [x_Frow F hr]; dsimp only
  rw [hc]; (try dsimp only)
  rw [if_neg (by omega), if_neg (by omega), if_neg (by omega), if_pos ⟨by omega, hb, h8, by rw [← x_words_rev]; exact hw, hrc⟩]
  rw [show d + 1 - 1 = d from rfl, x_exec_le2 h1 (Nat.le_max_left _ _)]; dsimp only
  rw [hn]; exact x_exec_le2 h3 (Nat.le_max_right _ _)
/-- the same locals, told otherwise -/
theorem ev_lo (h : lo = lo') (k : x_Ev X d mi pc lo' st G P) : x_Ev X d mi pc lo st G P := by rw [h]; exact k
end XEV
end
section
/-! ===== printed by gen41.py: the cells that stand from the start on ===== -/
def x_sh0 : List (Nat ⊕ (Nat × Nat)) := [.inl 10, .inr (4, 4), .inr (2, 900), .inl 4, .inr (1, 6), .inr (1, 6), .inl 3, .inr (0, 6), .inr (0, 6), .inr (0, 6), .inr (0, 6), .inr (3, 6), .inr (0, 6), .inl 3, .inr (0, 6), .inr (0, 6), .inr (0, 6), .inr (0, 6), .inr (3, 6), .inr (5, 3), .inr (6, 3), .inr (0, 1422), .inl 0, .inr (1, 30), .inr (0, 30), .inr (1, 30), .inr (0, 4), .inr (0, 4), .inl 1, .inl 3, .inr (0, 6), .inr (0, 6), .inr (0, 6), .inr (0, 6), .inr (3, 6), .inl 3, .inr (0, 6), .inr (0, 6), .inr (0, 6), .inr (0, 6), .inr (3, 6), .inr (0, 72), .inr (0, 72), .inr (0, 6), .inr (0, 6), .inl 2, .inl 3, .inr (0, 6), .inr (0, 6), .inr (0, 6), .inr (0, 6), .inr (3, 6), .inl 3, .inr (0, 6), .inr (0, 6), .inr (0, 6), .inr (0, 6), .inr (3, 6), .inr (0, 6), .inr (0, 6), .inr (0, 5), .inl 9, .inr (1, 60), .inl 9, .inr (1, 60), .inl 9, .inr (1, 60), .inl 9, .inr (1, 60), .inl 11, .inr (0, 1760), .inr (1, 100), .inr (0, 4), .inr (0, 4), .inr (1, 240), .inr (2, 900), .inr (2, 900), .inr (0, 60), .inr (0, 500), .inr (0, 500), .inr (0, 500), .inr (0, 500), .inr (0, 500), .inr (0, 500), .inr (1, 30), .inr (1, 30), .inr (1, 4), .inr (0, 30), .inr (0, 5), .inr (0, 12), .inr (0, 6), .inr (0, 6), .inr (0, 23716), .inr (0, 100), .inr (0, 100), .inr (0, 100), .inr (0, 100), .inr (0, 100), .inr (0, 100), .inr (3, 6), .inr (3, 60), .inr (0, 5)]
def x_fx : List ((Nat × Nat) × Nat) := [((0, 3), 1), ((0, 4), 2), ((0, 10), 19), ((0, 11), 20), ((0, 13), 21), ((0, 15), 22), ((0, 16), 28), ((0, 17), 45), ((1, 0), 61), ((1, 1), 63), ((1, 2), 65), ((1, 3), 67), ((3, 1), 4), ((3, 2), 5), ((3, 7), 6), ((3, 8), 12), ((3, 9), 13), ((6, 1), 7), ((6, 2), 8), ((6, 3), 9), ((6, 4), 10), ((6, 5), 11), ((13, 1), 14), ((13, 2), 15), ((13, 3), 16), ((13, 4), 17), ((13, 5), 18), ((22, 0), 23), ((22, 1), 24), ((22, 2), 25), ((22, 4), 26), ((22, 5), 27), ((28, 2), 29), ((28, 3), 35), ((28, 7), 41), ((28, 9), 42), ((28, 10), 43), ((28, 11), 44), ((29, 1), 30), ((29, 2), 31), ((29, 3), 32), ((29, 4), 33), ((29, 5), 34), ((35, 1), 36), ((35, 2), 37), ((35, 3), 38), ((35, 4), 39), ((35, 5), 40), ((45, 0), 46), ((45, 1), 52), ((45, 2), 58), ((45, 3), 59), ((45, 16), 60), ((46, 1), 47), ((46, 2), 48), ((46, 3), 49), ((46, 4), 50), ((46, 5), 51), ((52, 1), 53), ((52, 2), 54), ((52, 3), 55), ((52, 4), 56), ((52, 5), 57), ((61, 0), 62), ((63, 0), 64), ((65, 0), 66), ((67, 0), 68), ((69, 0), 70), ((69, 1), 71), ((69, 5), 72), ((69, 6), 73), ((69, 7), 74), ((69, 8), 75), ((69, 9), 76), ((69, 21), 77), ((69, 26), 78), ((69, 27), 79), ((69, 28), 80), ((69, 31), 81), ((69, 32), 82), ((69, 33), 83), ((69, 34), 84), ((69, 35), 85), ((69, 36), 86), ((69, 37), 87), ((69, 38), 88), ((69, 41), 89), ((69, 42), 90), ((69, 43), 91), ((69, 47), 92), ((69, 49), 93), ((69, 50), 94), ((69, 51), 95), ((69, 52), 96), ((69, 53), 97), ((69, 54), 98), ((69, 71), 99), ((69, 72), 100), ((69, 73), 101)]
def x_fixed (k j : Nat) : Option Nat := x_fx.lookup (k, j)
/-- the world's fixed part is as it was made -/
def x_WF (sh : List (Nat ⊕ (Nat × Nat))) (gr : Nat → Nat → Value) : Prop := (∀ (k : Nat) (s : Nat ⊕ (Nat × Nat)), x_sh0[k]? = some s → sh[k]? = some s) ∧ ∀ k j v, x_fixed k j = some v → gr k j = .ref v
theorem x_WF.s {sh : List (Nat ⊕ (Nat × Nat))} {gr : Nat → Nat → Value} (h : x_WF sh gr) {k : Nat} {s : Nat ⊕ (Nat × Nat)} (hk : x_sh0[k]? = some s) : sh[k]? = some s := h.1 k s hk
theorem x_WF.r {sh : List (Nat ⊕ (Nat × Nat))} {gr : Nat → Nat → Value} (h : x_WF sh gr) {k j v : Nat} (hk : x_fixed k j = some v) : gr k j = .ref v := h.2 k j v hk
def x_tyI : FieldType → Bool | .int | .boolean | .byte | .char | .short => true | _ => false
def x_tyR : FieldType → Bool | .object _ | .array _ => true | _ => false
section XEV2
variable {X : x_Ext} {d mi pc nx a b q len ml : Nat} {z : Int} {lo lo' : x_Lo} {r : List Value} {P : Option Value → x_G → Prop} {T : List (Nat × x_Row)} {rt : Option FieldType}
variable {sh : List (Nat ⊕ (Nat × Nat))} {gi : Nat → Nat → Int32} {gl : Nat → Nat → Int64} {gr : Nat → Nat → Value} {k i0 n : Nat} {i : Int32}
theorem ev_getI (F : x_F mi T ml rt) (hr : T.lookup pc = some (.getfield i0, len, a, b, q, z)) (hk : sh[k]? = some (.inl a)) (hb : decide (b < (x_fty a).length) = true) (ht : x_tyI ((x_fty a).getD b .int) = true) (hn : pc + len = nx) (kk : x_Ev X d mi nx lo (.int (gi k b) :: r) (sh, gi, gl, gr) P) : x_Ev X d mi pc lo (.ref k :: r) (sh, gi, gl, gr) P := by
  refine ev_heap F hr rfl ?_ hn kk
  show (if sh[k]? = some (.inl a) ∧ b < (x_fty a).length then _ else none) = _
  rw [if_pos ⟨hk, of_decide_eq_true hb⟩]
  revert ht
  cases (x_fty a).getD b .int <;> intro ht <;> first | rfl | cases ht
theorem ev_getL (F : x_F mi T ml rt) (hr : T.lookup pc = some (.getfield i0, len, a, b, q, z)) (hk : sh[k]? = some (.inl a)) (hb : decide (b < (x_fty a).length) = true) (ht : (x_fty a).getD b .int = .long) (hn : pc + len = nx) (kk : x_Ev X d mi nx lo (.long (gl k b) :: r) (sh, gi, gl, gr) P) : x_Ev X d mi pc lo (.ref k :: r) (sh, gi, gl, gr) P := by
  refine ev_heap F hr rfl ?_ hn kk
  show (if sh[k]? = some (.inl a) ∧ b < (x_fty a).length then _ else none) = _
  rw [if_pos ⟨hk, of_decide_eq_true hb⟩, ht]
  rfl
theorem ev_getR {v : Value} (F : x_F mi T ml rt) (hr : T.lookup pc = some (.getfield i0, len, a, b, q, z)) (hk : sh[k]? = some (.inl a)) (hb : decide (b < (x_fty a).length) = true) (ht : x_tyR ((x_fty a).getD b .int) = true) (hv : gr k b = v) (hv2 : x_isR v = true) (hn : pc + len = nx) (kk : x_Ev X d mi nx lo (v :: r) (sh, gi, gl, gr) P) : x_Ev X d mi pc lo (.ref k :: r) (sh, gi, gl, gr) P := by
  refine ev_heap F hr rfl ?_ hn kk
  show (if sh[k]? = some (.inl a) ∧ b < (x_fty a).length then _ else none) = _
  rw [if_pos ⟨hk, of_decide_eq_true hb⟩]
  have h : x_fv (sh, gi, gl, gr) k b ((x_fty a).getD b .int) = v := by
    revert ht
    cases (x_fty a).getD b .int <;> intro ht <;> first | (cases ht; done) | (show x_nr (gr k b) = v; rw [hv]; exact x_nr_isR hv2)
  rw [h]
theorem ev_putI {x : Int32} (F : x_F mi T ml rt) (hr : T.lookup pc = some (.putfield i0, len, a, b, q, z)) (hk : sh[k]? = some (.inl a)) (hb : decide (b < (x_fty a).length) = true) (ht : (x_fty a).getD b .int = .int) (hn : pc + len = nx) (kk : x_Ev X d mi nx lo r (sh, x_up2 gi k b x, gl, gr) P) : x_Ev X d mi pc lo (.int x :: .ref k :: r) (sh, gi, gl, gr) P := by
  refine ev_heap F hr rfl ?_ hn kk
  show (if sh[k]? = some (.inl a) ∧ b < (x_fty a).length ∧ _ then _ else none) = _
  rw [ht, if_pos ⟨hk, of_decide_eq_true hb, rfl⟩]
  rfl
theorem ev_putZ {x : Int32} (F : x_F mi T ml rt) (hr : T.lookup pc = some (.putfield i0, len, a, b, q, z)) (hk : sh[k]? = some (.inl a)) (hb : decide (b < (x_fty a).length) = true) (ht : (x_fty a).getD b .int = .boolean) (hx : x = 0 ∨ x = 1) (hn : pc + len = nx) (kk : x_Ev X d mi nx lo r (sh, x_up2 gi k b x, gl, gr) P) : x_Ev X d mi pc lo (.int x :: .ref k :: r) (sh, gi, gl, gr) P := by
  refine ev_heap F hr rfl ?_ hn kk
  show (if sh[k]? = some (.inl a) ∧ b < (x_fty a).length ∧ _ then _ else none) = _
  rw [ht, if_pos ⟨hk, of_decide_eq_true hb, by rcases hx with rfl | rfl <;> rfl⟩]
  rfl
theorem ev_putL {x : Int64} (F : x_F mi T ml rt) (hr : T.lookup pc = some (.putfield i0, len, a, b, q, z)) (hk : sh[k]? = some (.inl a)) (hb : decide (b < (x_fty a).length) = true) (ht : (x_fty a).getD b .int = .long) (hn : pc + len = nx) (kk : x_Ev X d mi nx lo r (sh, gi, x_up2 gl k b x, gr) P) : x_Ev X d mi pc lo (.long x :: .ref k :: r) (sh, gi, gl, gr) P := by
  refine ev_heap F hr rfl ?_ hn kk
  show (if sh[k]? = some (.inl a) ∧ b < (x_fty a).length ∧ _ then _ else none) = _
  rw [ht, if_pos ⟨hk, of_decide_eq_true hb, rfl⟩]
  rfl
theorem ev_putR {v : Value} (F : x_F mi T ml rt) (hr : T.lookup pc = some (.putfield i0, len, a, b, q, z)) (hk : sh[k]? = some (.inl a)) (hb : decide (b < (x_fty a).length) = true) (ht : x_tyR ((x_fty a).getD b .int) = true) (hv : x_isR v = true) (hn : pc + len = nx) (kk : x_Ev X d mi nx lo r (sh, gi, gl, x_up2 gr k b v) P) : x_Ev X d mi pc lo (v :: .ref k :: r) (sh, gi, gl, gr) P := by
  refine ev_heap F hr rfl ?_ hn kk
  show (if sh[k]? = some (.inl a) ∧ b < (x_fty a).length ∧ _ then _ else none) = _
  have h : x_fit ((x_fty a).getD b .int) v = true ∧ x_put (sh, gi, gl, gr) k b ((x_fty a).getD b .int) v = (sh, gi, gl, x_up2 gr k b v) := by
    revert ht
    cases (x_fty a).getD b .int <;> intro ht <;> first | (cases ht; done) | exact ⟨hv, rfl⟩
  rw [if_pos ⟨hk, of_decide_eq_true hb, h.1⟩, h.2]
theorem ev_alen (F : x_F mi T ml rt) {t : Nat} (hr : T.lookup pc = some (.arraylength, len, a, b, q, z)) (hk : sh[k]? = some (.inr (t, n))) (ht : decide (t < 7) = true) (hn : pc + len = nx) (kk : x_Ev X d mi nx lo (.int (Int32.ofNat n) :: r) (sh, gi, gl, gr) P) : x_Ev X d mi pc lo (.ref k :: r) (sh, gi, gl, gr) P := by
  refine ev_heap F hr rfl ?_ hn kk
  simp only [x_heap, hk, of_decide_eq_true ht, if_true]
theorem x_ix (h0 : ¬ i < 0) (h1 : i.toNatClampNeg < n) : ¬ (i < 0 ∨ n ≤ i.toNatClampNeg) := fun h => h.elim h0 (fun h => absurd h1 (Nat.not_lt.mpr h))
theorem ev_iald (F : x_F mi T ml rt) (hr : T.lookup pc = some (.iaload, len, a, b, q, z)) (hk : sh[k]? = some (.inr (0, n))) (h0 : ¬ i < 0) (h1 : i.toNatClampNeg < n) (hn : pc + len = nx) (kk : x_Ev X d mi nx lo (.int (gi k i.toNatClampNeg) :: r) (sh, gi, gl, gr) P) : x_Ev X d mi pc lo (.int i :: .ref k :: r) (sh, gi, gl, gr) P := by
  refine ev_heap F hr rfl ?_ hn kk
  simp only [x_heap, x_ldA, hk]
  rw [if_pos ⟨rfl, x_ix h0 h1⟩]; rfl
theorem ev_lald (F : x_F mi T ml rt) (hr : T.lookup pc = some (.laload, len, a, b, q, z)) (hk : sh[k]? = some (.inr (1, n))) (h0 : ¬ i < 0) (h1 : i.toNatClampNeg < n) (hn : pc + len = nx) (kk : x_Ev X d mi nx lo (.long (gl k i.toNatClampNeg) :: r) (sh, gi, gl, gr) P) : x_Ev X d mi pc lo (.int i :: .ref k :: r) (sh, gi, gl, gr) P := by
  refine ev_heap F hr rfl ?_ hn kk
  simp only [x_heap, x_ldA, hk]
  rw [if_pos ⟨rfl, x_ix h0 h1⟩]; rfl
theorem ev_bald (F : x_F mi T ml rt) {t : Nat} (hr : T.lookup pc = some (.baload, len, a, b, q, z)) (hk : sh[k]? = some (.inr (t, n))) (ht : (t == 2 || t == 3) = true) (h0 : ¬ i < 0) (h1 : i.toNatClampNeg < n) (hn : pc + len = nx) (kk : x_Ev X d mi nx lo (.int (gi k i.toNatClampNeg) :: r) (sh, gi, gl, gr) P) : x_Ev X d mi pc lo (.int i :: .ref k :: r) (sh, gi, gl, gr) P := by
  refine ev_heap F hr rfl ?_ hn kk
  simp only [x_heap, x_ldA, hk]
  rw [if_pos ⟨ht, x_ix h0 h1⟩]
  simp only [Bool.or_eq_true, beq_iff_eq] at ht
  rcases ht with rfl | rfl <;> rfl
theorem ev_aald (F : x_F mi T ml rt) {t : Nat} {v : Value} (hr : T.lookup pc = some (.aaload, len, a, b, q, z)) (hk : sh[k]? = some (.inr (t, n))) (ht : (decide (4 ≤ t) && decide (t < 7)) = true) (h0 : ¬ i < 0) (h1 : i.toNatClampNeg < n) (hv : gr k i.toNatClampNeg = v) (hv2 : x_isR v = true) (hn : pc + len = nx) (kk : x_Ev X d mi nx lo (v :: r) (sh, gi, gl, gr) P) : x_Ev X d mi pc lo (.int i :: .ref k :: r) (sh, gi, gl, gr) P := by
  refine ev_heap F hr rfl ?_ hn kk
  simp only [x_heap, x_ldA, hk]
  rw [if_pos ⟨ht, x_ix h0 h1⟩]
  have h : x_fv (sh, gi, gl, gr) k i.toNatClampNeg (x_ety t) = v := by
    simp only [Bool.and_eq_true, decide_eq_true_eq] at ht
    obtain rfl | rfl | rfl : t = 4 ∨ t = 5 ∨ t = 6 := by omega
    all_goals (show x_nr (gr k _) = v; rw [hv]; exact x_nr_isR hv2)
  rw [h]
theorem ev_iast (F : x_F mi T ml rt) {x : Int32} (hr : T.lookup pc = some (.iastore, len, a, b, q, z)) (hk : sh[k]? = some (.inr (0, n))) (h0 : ¬ i < 0) (h1 : i.toNatClampNeg < n) (hn : pc + len = nx) (kk : x_Ev X d mi nx lo r (sh, x_up2 gi k i.toNatClampNeg x, gl, gr) P) : x_Ev X d mi pc lo (.int x :: .int i :: .ref k :: r) (sh, gi, gl, gr) P := by
  refine ev_heap F hr rfl ?_ hn kk
  simp only [x_heap, x_stA, hk]
  rw [if_pos ⟨trivial, x_ix h0 h1⟩]; rfl
theorem ev_last (F : x_F mi T ml rt) {x : Int64} (hr : T.lookup pc = some (.lastore, len, a, b, q, z)) (hk : sh[k]? = some (.inr (1, n))) (h0 : ¬ i < 0) (h1 : i.toNatClampNeg < n) (hn : pc + len = nx) (kk : x_Ev X d mi nx lo r (sh, gi, x_up2 gl k i.toNatClampNeg x, gr) P) : x_Ev X d mi pc lo (.long x :: .int i :: .ref k :: r) (sh, gi, gl, gr) P := by
  refine ev_heap F hr rfl ?_ hn kk
  simp only [x_heap, x_stA, hk]
  rw [if_pos ⟨trivial, x_ix h0 h1⟩]; rfl
theorem ev_bast (F : x_F mi T ml rt) {x : Int32} (hr : T.lookup pc = some (.bastore, len, a, b, q, z)) (hk : sh[k]? = some (.inr (2, n))) (h0 : ¬ i < 0) (h1 : i.toNatClampNeg < n) (hn : pc + len = nx) (kk : x_Ev X d mi nx lo r (sh, x_up2 gi k i.toNatClampNeg x.toInt8.toInt32, gl, gr) P) : x_Ev X d mi pc lo (.int x :: .int i :: .ref k :: r) (sh, gi, gl, gr) P := by
  refine ev_heap F hr rfl ?_ hn kk
  simp only [x_heap, x_aty, x_stA, hk]
  rw [if_pos trivial, if_pos ⟨trivial, x_ix h0 h1⟩]; rfl
theorem ev_zast (F : x_F mi T ml rt) {x : Int32} (hr : T.lookup pc = some (.bastore, len, a, b, q, z)) (hk : sh[k]? = some (.inr (3, n))) (h0 : ¬ i < 0) (h1 : i.toNatClampNeg < n) (hn : pc + len = nx) (kk : x_Ev X d mi nx lo r (sh, x_up2 gi k i.toNatClampNeg (x &&& 1), gl, gr) P) : x_Ev X d mi pc lo (.int x :: .int i :: .ref k :: r) (sh, gi, gl, gr) P := by
  refine ev_heap F hr rfl ?_ hn kk
  simp only [x_heap, x_aty, x_stA, hk]
  rw [if_neg (by decide), if_pos ⟨trivial, x_ix h0 h1⟩]; rfl
theorem ev_ic {n0 : Int} {v : Int32} (F : x_F mi T ml rt) (hr : T.lookup pc = some (.iconst n0, len, a, b, q, z)) (hv : Int32.ofInt n0 = v) (hn : pc + len = nx) (kk : x_Ev X d mi nx lo (.int v :: r) (sh, gi, gl, gr) P) : x_Ev X d mi pc lo r (sh, gi, gl, gr) P := by
  subst hv; exact ev_alu F hr rfl rfl hn kk
theorem ev_bp {n0 : Int} {v : Int32} (F : x_F mi T ml rt) (hr : T.lookup pc = some (.bipush n0, len, a, b, q, z)) (hv : (Int8.ofInt n0).toInt32 = v) (hn : pc + len = nx) (kk : x_Ev X d mi nx lo (.int v :: r) (sh, gi, gl, gr) P) : x_Ev X d mi pc lo r (sh, gi, gl, gr) P := by
  subst hv; exact ev_alu F hr rfl rfl hn kk
theorem ev_sp {n0 : Int} {v : Int32} (F : x_F mi T ml rt) (hr : T.lookup pc = some (.sipush n0, len, a, b, q, z)) (hv : (Int16.ofInt n0).toInt32 = v) (hn : pc + len = nx) (kk : x_Ev X d mi nx lo (.int v :: r) (sh, gi, gl, gr) P) : x_Ev X d mi pc lo r (sh, gi, gl, gr) P := by
  subst hv; exact ev_alu F hr rfl rfl hn kk
theorem ev_lc {n0 : Fin 2} {v : Int64} (F : x_F mi T ml rt) (hr : T.lookup pc = some (.lconst n0, len, a, b, q, z)) (hv : Int64.ofNat (n0 : Nat) = v) (hn : pc + len = nx) (kk : x_Ev X d mi nx lo (.long v :: r) (sh, gi, gl, gr) P) : x_Ev X d mi pc lo r (sh, gi, gl, gr) P := by
  subst hv; exact ev_alu F hr rfl rfl hn kk
theorem ev_ldI {v : Int32} (F : x_F mi T ml rt) (hr : T.lookup pc = some (.ldc i0, len, 0, b, q, z)) (hv : Int32.ofInt z = v) (hn : pc + len = nx) (kk : x_Ev X d mi nx lo (.int v :: r) (sh, gi, gl, gr) P) : x_Ev X d mi pc lo r (sh, gi, gl, gr) P := by
  subst hv; exact ev_heap F hr rfl rfl hn kk
theorem ev_ldW {v : Int32} (F : x_F mi T ml rt) (hr : T.lookup pc = some (.ldc_w i0, len, a, b, q, z)) (hv : Int32.ofInt z = v) (hn : pc + len = nx) (kk : x_Ev X d mi nx lo (.int v :: r) (sh, gi, gl, gr) P) : x_Ev X d mi pc lo r (sh, gi, gl, gr) P := by
  subst hv; exact ev_heap F hr rfl rfl hn kk
theorem ev_ldL {v : Int64} (F : x_F mi T ml rt) (hr : T.lookup pc = some (.ldc2_w i0, len, a, b, q, z)) (hv : Int64.ofInt z = v) (hn : pc + len = nx) (kk : x_Ev X d mi nx lo (.long v :: r) (sh, gi, gl, gr) P) : x_Ev X d mi pc lo r (sh, gi, gl, gr) P := by
  subst hv; exact ev_heap F hr rfl rfl hn kk
theorem ev_inc {n0 : Int} {x c : Int32} {j : Nat} (F : x_F mi T ml rt) (hr : T.lookup pc = some (.iinc j n0, len, a, b, q, z)) (hg : x_get lo j = some (.int x)) (hc : Int32.ofInt n0 = c) (hj : decide (j < ml) = true) (hl : x_set1 lo j (.int (x + c)) = lo') (hn : pc + len = nx) (kk : x_Ev X d mi nx lo' r (sh, gi, gl, gr) P) : x_Ev X d mi pc lo r (sh, gi, gl, gr) P := by
  subst hc; subst hl
  refine ev_loc F hr rfl ?_ hn kk
  simp only [x_loc, hg, of_decide_eq_true hj, if_true]
end XEV2
end
section
/-! ===== printed by walk.py: each method's table, locals, result ===== -/
theorem f_X0_init : x_F n_X0_init x_t_X0_init 3 none := ⟨rfl, rfl, rfl⟩
theorem f_X0_lettersOf : x_F n_X0_lettersOf x_t_X0_lettersOf 5 (some .long) := ⟨rfl, rfl, rfl⟩
theorem f_X0_find : x_F n_X0_find x_t_X0_find 6 (some .boolean) := ⟨rfl, rfl, rfl⟩
theorem f_X0_extend : x_F n_X0_extend x_t_X0_extend 6 (some .boolean) := ⟨rfl, rfl, rfl⟩
theorem f_X0_fitsLast : x_F n_X0_fitsLast x_t_X0_fitsLast 6 (some .boolean) := ⟨rfl, rfl, rfl⟩
theorem f_X0_heardInRow : x_F n_X0_heardInRow x_t_X0_heardInRow 2 (some .long) := ⟨rfl, rfl, rfl⟩
theorem f_X0_callTold : x_F n_X0_callTold x_t_X0_callTold 2 (some .long) := ⟨rfl, rfl, rfl⟩
theorem f_X0_blastsTold : x_F n_X0_blastsTold x_t_X0_blastsTold 3 (some .int) := ⟨rfl, rfl, rfl⟩
theorem f_X1_init : x_F n_X1_init x_t_X1_init 1 none := ⟨rfl, rfl, rfl⟩
theorem f_X1_takeAll : x_F n_X1_takeAll x_t_X1_takeAll 2 none := ⟨rfl, rfl, rfl⟩
theorem f_X1_takeShips : x_F n_X1_takeShips x_t_X1_takeShips 7 none := ⟨rfl, rfl, rfl⟩
theorem f_X1_takeCarts : x_F n_X1_takeCarts x_t_X1_takeCarts 4 none := ⟨rfl, rfl, rfl⟩
theorem f_X1_turnEnd : x_F n_X1_turnEnd x_t_X1_turnEnd 2 (some .int) := ⟨rfl, rfl, rfl⟩
theorem f_X1_leastWaits : x_F n_X1_leastWaits x_t_X1_leastWaits 1 (some .int) := ⟨rfl, rfl, rfl⟩
theorem f_X1_canPassWithin : x_F n_X1_canPassWithin x_t_X1_canPassWithin 2 (some .boolean) := ⟨rfl, rfl, rfl⟩
theorem f_X1_allCanPass : x_F n_X1_allCanPass x_t_X1_allCanPass 1 (some .boolean) := ⟨rfl, rfl, rfl⟩
theorem f_X1_canEndWithin : x_F n_X1_canEndWithin x_t_X1_canEndWithin 6 (some .boolean) := ⟨rfl, rfl, rfl⟩
theorem f_X1_search : x_F n_X1_search x_t_X1_search 8 none := ⟨rfl, rfl, rfl⟩
theorem f_X1_canBegin : x_F n_X1_canBegin x_t_X1_canBegin 3 (some .boolean) := ⟨rfl, rfl, rfl⟩
theorem f_X1_waitsOf : x_F n_X1_waitsOf x_t_X1_waitsOf 3 (some .int) := ⟨rfl, rfl, rfl⟩
theorem f_X1_layPlan : x_F n_X1_layPlan x_t_X1_layPlan 7 (some .boolean) := ⟨rfl, rfl, rfl⟩
theorem f_X1_shipMayBegin : x_F n_X1_shipMayBegin x_t_X1_shipMayBegin 6 (some .boolean) := ⟨rfl, rfl, rfl⟩
theorem f_X1_cartMayBegin : x_F n_X1_cartMayBegin x_t_X1_cartMayBegin 6 (some .boolean) := ⟨rfl, rfl, rfl⟩
theorem f_X1_addAct : x_F n_X1_addAct x_t_X1_addAct 4 none := ⟨rfl, rfl, rfl⟩
theorem f_X1_tellPlan : x_F n_X1_tellPlan x_t_X1_tellPlan 1 none := ⟨rfl, rfl, rfl⟩
theorem f_X1_dearestByPlan : x_F n_X1_dearestByPlan x_t_X1_dearestByPlan 6 (some .int) := ⟨rfl, rfl, rfl⟩
theorem f_X1_waitsByNumber : x_F n_X1_waitsByNumber x_t_X1_waitsByNumber 4 (some .int) := ⟨rfl, rfl, rfl⟩
theorem f_X1_openedByPlan : x_F n_X1_openedByPlan x_t_X1_openedByPlan 6 (some .int) := ⟨rfl, rfl, rfl⟩
theorem f_X1_busiestByPlan : x_F n_X1_busiestByPlan x_t_X1_busiestByPlan 5 (some .int) := ⟨rfl, rfl, rfl⟩
theorem f_X1_waitingIn : x_F n_X1_waitingIn x_t_X1_waitingIn 5 (some .int) := ⟨rfl, rfl, rfl⟩
theorem f_X2_init : x_F n_X2_init x_t_X2_init 1 none := ⟨rfl, rfl, rfl⟩
theorem f_X2_spendDay : x_F n_X2_spendDay x_t_X2_spendDay 4 none := ⟨rfl, rfl, rfl⟩
theorem f_X2_comeLater : x_F n_X2_comeLater x_t_X2_comeLater 4 none := ⟨rfl, rfl, rfl⟩
theorem f_X2_delay : x_F n_X2_delay x_t_X2_delay 2 (some .int) := ⟨rfl, rfl, rfl⟩
theorem f_X2_endWhatIsOver : x_F n_X2_endWhatIsOver x_t_X2_endWhatIsOver 1 none := ⟨rfl, rfl, rfl⟩
theorem f_X2_strikeSails : x_F n_X2_strikeSails x_t_X2_strikeSails 3 none := ⟨rfl, rfl, rfl⟩
theorem f_X2_strikeIfDue : x_F n_X2_strikeIfDue x_t_X2_strikeIfDue 2 none := ⟨rfl, rfl, rfl⟩
theorem f_X2_firstShipLeft : x_F n_X2_firstShipLeft x_t_X2_firstShipLeft 2 (some .int) := ⟨rfl, rfl, rfl⟩
theorem f_X2_obey : x_F n_X2_obey x_t_X2_obey 6 none := ⟨rfl, rfl, rfl⟩
theorem f_X2_gatherFacts : x_F n_X2_gatherFacts x_t_X2_gatherFacts 5 none := ⟨rfl, rfl, rfl⟩
theorem f_X2_beginNext : x_F n_X2_beginNext x_t_X2_beginNext 2 none := ⟨rfl, rfl, rfl⟩
theorem f_X2_begin : x_F n_X2_begin x_t_X2_begin 4 none := ⟨rfl, rfl, rfl⟩
theorem f_X2_left : x_F n_X2_left x_t_X2_left 3 (some .int) := ⟨rfl, rfl, rfl⟩
theorem f_X2_tellDay : x_F n_X2_tellDay x_t_X2_tellDay 1 none := ⟨rfl, rfl, rfl⟩
theorem f_X4_init : x_F n_X4_init x_t_X4_init 1 none := ⟨rfl, rfl, rfl⟩
theorem f_X4_clear : x_F n_X4_clear x_t_X4_clear 1 none := ⟨rfl, rfl, rfl⟩
theorem f_X4_join : x_F n_X4_join x_t_X4_join 5 none := ⟨rfl, rfl, rfl⟩
theorem f_X4_put : x_F n_X4_put x_t_X4_put 7 none := ⟨rfl, rfl, rfl⟩
theorem f_X5_init : x_F n_X5_init x_t_X5_init 1 none := ⟨rfl, rfl, rfl⟩
theorem f_X5_turnLength : x_F n_X5_turnLength x_t_X5_turnLength 3 (some .int) := ⟨rfl, rfl, rfl⟩
theorem f_X5_soundOf : x_F n_X5_soundOf x_t_X5_soundOf 7 (some .long) := ⟨rfl, rfl, rfl⟩
theorem f_X5_withEcho : x_F n_X5_withEcho x_t_X5_withEcho 3 (some .long) := ⟨rfl, rfl, rfl⟩
theorem f_X5_heardOf : x_F n_X5_heardOf x_t_X5_heardOf 2 (some .long) := ⟨rfl, rfl, rfl⟩
theorem f_X5_bothHeard : x_F n_X5_bothHeard x_t_X5_bothHeard 4 (some .long) := ⟨rfl, rfl, rfl⟩
theorem f_X5_leastBeats : x_F n_X5_leastBeats x_t_X5_leastBeats 3 (some .int) := ⟨rfl, rfl, rfl⟩
theorem f_X5_countReadings : x_F n_X5_countReadings x_t_X5_countReadings 7 (some .int) := ⟨rfl, rfl, rfl⟩
theorem f_X5_countBeats : x_F n_X5_countBeats x_t_X5_countBeats 7 (some .int) := ⟨rfl, rfl, rfl⟩
theorem f_X5_couplesAlike : x_F n_X5_couplesAlike x_t_X5_couplesAlike 5 (some .int) := ⟨rfl, rfl, rfl⟩
theorem f_X6_init : x_F n_X6_init x_t_X6_init 2 none := ⟨rfl, rfl, rfl⟩
theorem f_X6_readAll : x_F n_X6_readAll x_t_X6_readAll 3 (some .boolean) := ⟨rfl, rfl, rfl⟩
theorem f_X6_readPort : x_F n_X6_readPort x_t_X6_readPort 3 (some .boolean) := ⟨rfl, rfl, rfl⟩
theorem f_X6_readTurns : x_F n_X6_readTurns x_t_X6_readTurns 1 (some .boolean) := ⟨rfl, rfl, rfl⟩
theorem f_X6_readFrost : x_F n_X6_readFrost x_t_X6_readFrost 1 (some .boolean) := ⟨rfl, rfl, rfl⟩
theorem f_X6_readEcho : x_F n_X6_readEcho x_t_X6_readEcho 1 (some .boolean) := ⟨rfl, rfl, rfl⟩
theorem f_X6_readShip : x_F n_X6_readShip x_t_X6_readShip 3 (some .boolean) := ⟨rfl, rfl, rfl⟩
theorem f_X6_readCart : x_F n_X6_readCart x_t_X6_readCart 1 (some .boolean) := ⟨rfl, rfl, rfl⟩
theorem f_X6_readComing : x_F n_X6_readComing x_t_X6_readComing 5 (some .boolean) := ⟨rfl, rfl, rfl⟩
theorem f_X6_takeNewName : x_F n_X6_takeNewName x_t_X6_takeNewName 2 (some .boolean) := ⟨rfl, rfl, rfl⟩
theorem f_X6_portNamed : x_F n_X6_portNamed x_t_X6_portNamed 4 (some .int) := ⟨rfl, rfl, rfl⟩
theorem f_X7_init : x_F n_X7_init x_t_X7_init 3 none := ⟨rfl, rfl, rfl⟩
theorem f_X7_addStep : x_F n_X7_addStep x_t_X7_addStep 4 none := ⟨rfl, rfl, rfl⟩
theorem f_X7_endRule : x_F n_X7_endRule x_t_X7_endRule 2 none := ⟨rfl, rfl, rfl⟩
theorem f_X7_actBy : x_F n_X7_actBy x_t_X7_actBy 4 (some .int) := ⟨rfl, rfl, rfl⟩
theorem f_X7_holds : x_F n_X7_holds x_t_X7_holds 9 (some .boolean) := ⟨rfl, rfl, rfl⟩
theorem f_X7_compares : x_F n_X7_compares x_t_X7_compares 4 (some .boolean) := ⟨rfl, rfl, rfl⟩
theorem f_X8_init : x_F n_X8_init x_t_X8_init 3 none := ⟨rfl, rfl, rfl⟩
theorem f_X8_readAll : x_F n_X8_readAll x_t_X8_readAll 2 (some .boolean) := ⟨rfl, rfl, rfl⟩
theorem f_X8_readRule : x_F n_X8_readRule x_t_X8_readRule 2 (some .boolean) := ⟨rfl, rfl, rfl⟩
theorem f_X8_actTold : x_F n_X8_actTold x_t_X8_actTold 1 (some .int) := ⟨rfl, rfl, rfl⟩
theorem f_X8_readEither : x_F n_X8_readEither x_t_X8_readEither 3 (some .boolean) := ⟨rfl, rfl, rfl⟩
theorem f_X8_readBoth : x_F n_X8_readBoth x_t_X8_readBoth 3 (some .boolean) := ⟨rfl, rfl, rfl⟩
theorem f_X8_readOne : x_F n_X8_readOne x_t_X8_readOne 4 (some .boolean) := ⟨rfl, rfl, rfl⟩
theorem f_X8_readNested : x_F n_X8_readNested x_t_X8_readNested 3 (some .boolean) := ⟨rfl, rfl, rfl⟩
theorem f_X8_factTold : x_F n_X8_factTold x_t_X8_factTold 1 (some .int) := ⟨rfl, rfl, rfl⟩
theorem f_X8_readCase : x_F n_X8_readCase x_t_X8_readCase 3 (some .boolean) := ⟨rfl, rfl, rfl⟩
theorem f_X8_comparesTold : x_F n_X8_comparesTold x_t_X8_comparesTold 1 (some .int) := ⟨rfl, rfl, rfl⟩
theorem f_X9_init : x_F n_X9_init x_t_X9_init 3 none := ⟨rfl, rfl, rfl⟩
theorem f_X9_step : x_F n_X9_step x_t_X9_step 2 none := ⟨rfl, rfl, rfl⟩
theorem f_X9_stepWord : x_F n_X9_stepWord x_t_X9_stepWord 2 none := ⟨rfl, rfl, rfl⟩
theorem f_X9_stepNumber : x_F n_X9_stepNumber x_t_X9_stepNumber 1 none := ⟨rfl, rfl, rfl⟩
theorem f_X9_isSign : x_F n_X9_isSign x_t_X9_isSign 1 (some .boolean) := ⟨rfl, rfl, rfl⟩
theorem f_X9_refuseToken : x_F n_X9_refuseToken x_t_X9_refuseToken 2 (some .boolean) := ⟨rfl, rfl, rfl⟩
theorem f_X9_isName : x_F n_X9_isName x_t_X9_isName 1 (some .boolean) := ⟨rfl, rfl, rfl⟩
theorem f_X9_isBlasts : x_F n_X9_isBlasts x_t_X9_isBlasts 2 (some .boolean) := ⟨rfl, rfl, rfl⟩
theorem f_X9_isSignOf : x_F n_X9_isSignOf x_t_X9_isSignOf 2 (some .boolean) := ⟨rfl, rfl, rfl⟩
theorem f_X9_takeKeyword : x_F n_X9_takeKeyword x_t_X9_takeKeyword 2 (some .boolean) := ⟨rfl, rfl, rfl⟩
theorem f_X9_takeSign : x_F n_X9_takeSign x_t_X9_takeSign 2 (some .boolean) := ⟨rfl, rfl, rfl⟩
theorem f_X9_takeNumber : x_F n_X9_takeNumber x_t_X9_takeNumber 3 (some .boolean) := ⟨rfl, rfl, rfl⟩
theorem f_X10_init : x_F n_X10_init x_t_X10_init 1 none := ⟨rfl, rfl, rfl⟩
theorem f_X10_lay : x_F n_X10_lay x_t_X10_lay 4 none := ⟨rfl, rfl, rfl⟩
theorem f_X10_isMissing : x_F n_X10_isMissing x_t_X10_isMissing 1 (some .boolean) := ⟨rfl, rfl, rfl⟩
theorem f_X10_hasStretch : x_F n_X10_hasStretch x_t_X10_hasStretch 3 (some .boolean) := ⟨rfl, rfl, rfl⟩
theorem f_X10_put : x_F n_X10_put x_t_X10_put 4 none := ⟨rfl, rfl, rfl⟩
theorem f_X11_init : x_F n_X11_init x_t_X11_init 2 none := ⟨rfl, rfl, rfl⟩
theorem f_X11_status : x_F n_X11_status x_t_X11_status 1 (some .int) := ⟨rfl, rfl, rfl⟩
theorem f_X11_top : x_F n_X11_top x_t_X11_top 1 (some .long) := ⟨rfl, rfl, rfl⟩
theorem f_X11_bottom : x_F n_X11_bottom x_t_X11_bottom 1 (some .long) := ⟨rfl, rfl, rfl⟩
theorem f_X11_tray : x_F n_X11_tray x_t_X11_tray 4 (some .boolean) := ⟨rfl, rfl, rfl⟩
theorem f_X11_write : x_F n_X11_write x_t_X11_write 6 (some .boolean) := ⟨rfl, rfl, rfl⟩
theorem f_X11_read : x_F n_X11_read x_t_X11_read 4 (some .long) := ⟨rfl, rfl, rfl⟩
theorem f_X11_pour : x_F n_X11_pour x_t_X11_pour 8 (some .boolean) := ⟨rfl, rfl, rfl⟩
theorem f_X11_isTray : x_F n_X11_isTray x_t_X11_isTray 2 (some .boolean) := ⟨rfl, rfl, rfl⟩
theorem f_X11_wrongPlace : x_F n_X11_wrongPlace x_t_X11_wrongPlace 3 (some .int) := ⟨rfl, rfl, rfl⟩
theorem f_X11_feed : x_F n_X11_feed x_t_X11_feed 6 (some .int) := ⟨rfl, rfl, rfl⟩
theorem f_X11_feedOne : x_F n_X11_feedOne x_t_X11_feedOne 3 none := ⟨rfl, rfl, rfl⟩
theorem f_X11_river : x_F n_X11_river x_t_X11_river 4 (some .int) := ⟨rfl, rfl, rfl⟩
theorem f_X11_rules : x_F n_X11_rules x_t_X11_rules 4 (some .int) := ⟨rfl, rfl, rfl⟩
theorem f_X11_endText : x_F n_X11_endText x_t_X11_endText 2 none := ⟨rfl, rfl, rfl⟩
theorem f_X11_fault : x_F n_X11_fault x_t_X11_fault 2 (some .int) := ⟨rfl, rfl, rfl⟩
theorem f_X11_told : x_F n_X11_told x_t_X11_told 2 (some .int) := ⟨rfl, rfl, rfl⟩
theorem f_X11_ship : x_F n_X11_ship x_t_X11_ship 3 (some .int) := ⟨rfl, rfl, rfl⟩
theorem f_X11_cart : x_F n_X11_cart x_t_X11_cart 3 (some .int) := ⟨rfl, rfl, rfl⟩
theorem f_X11_nextShip : x_F n_X11_nextShip x_t_X11_nextShip 2 (some .int) := ⟨rfl, rfl, rfl⟩
theorem f_X11_nextCart : x_F n_X11_nextCart x_t_X11_nextCart 2 (some .int) := ⟨rfl, rfl, rfl⟩
theorem f_X11_isPort : x_F n_X11_isPort x_t_X11_isPort 2 (some .boolean) := ⟨rfl, rfl, rfl⟩
theorem f_X11_isShip : x_F n_X11_isShip x_t_X11_isShip 2 (some .boolean) := ⟨rfl, rfl, rfl⟩
theorem f_X11_isCart : x_F n_X11_isCart x_t_X11_isCart 2 (some .boolean) := ⟨rfl, rfl, rfl⟩
theorem f_X11_sound : x_F n_X11_sound x_t_X11_sound 2 (some .long) := ⟨rfl, rfl, rfl⟩
theorem f_X11_heard : x_F n_X11_heard x_t_X11_heard 2 (some .long) := ⟨rfl, rfl, rfl⟩
theorem f_X11_together : x_F n_X11_together x_t_X11_together 4 (some .long) := ⟨rfl, rfl, rfl⟩
theorem f_X11_lasts : x_F n_X11_lasts x_t_X11_lasts 2 (some .int) := ⟨rfl, rfl, rfl⟩
theorem f_X11_far : x_F n_X11_far x_t_X11_far 3 (some .int) := ⟨rfl, rfl, rfl⟩
theorem f_X11_readings : x_F n_X11_readings x_t_X11_readings 6 (some .int) := ⟨rfl, rfl, rfl⟩
theorem f_X11_addReading : x_F n_X11_addReading x_t_X11_addReading 4 none := ⟨rfl, rfl, rfl⟩
theorem f_X11_reading : x_F n_X11_reading x_t_X11_reading 3 (some .int) := ⟨rfl, rfl, rfl⟩
theorem f_X11_doubt : x_F n_X11_doubt x_t_X11_doubt 5 (some .boolean) := ⟨rfl, rfl, rfl⟩
theorem f_X11_alike : x_F n_X11_alike x_t_X11_alike 1 (some .int) := ⟨rfl, rfl, rfl⟩
theorem f_X11_code : x_F n_X11_code x_t_X11_code 4 (some .int) := ⟨rfl, rfl, rfl⟩
theorem f_X11_codeAt : x_F n_X11_codeAt x_t_X11_codeAt 2 (some .long) := ⟨rfl, rfl, rfl⟩
theorem f_X11_parts : x_F n_X11_parts x_t_X11_parts 5 (some .int) := ⟨rfl, rfl, rfl⟩
theorem f_X11_clearBeats : x_F n_X11_clearBeats x_t_X11_clearBeats 4 (some .int) := ⟨rfl, rfl, rfl⟩
theorem f_X11_clearEcho : x_F n_X11_clearEcho x_t_X11_clearEcho 2 (some .int) := ⟨rfl, rfl, rfl⟩
theorem f_X11_silent : x_F n_X11_silent x_t_X11_silent 4 (some .int) := ⟨rfl, rfl, rfl⟩
theorem f_X11_least : x_F n_X11_least x_t_X11_least 1 (some .int) := ⟨rfl, rfl, rfl⟩
theorem f_X11_plan : x_F n_X11_plan x_t_X11_plan 1 (some .int) := ⟨rfl, rfl, rfl⟩
theorem f_X11_planAt : x_F n_X11_planAt x_t_X11_planAt 3 (some .int) := ⟨rfl, rfl, rfl⟩
theorem f_X11_worth : x_F n_X11_worth x_t_X11_worth 3 (some .int) := ⟨rfl, rfl, rfl⟩
theorem f_X11_quicker : x_F n_X11_quicker x_t_X11_quicker 2 (some .int) := ⟨rfl, rfl, rfl⟩
theorem f_X11_away : x_F n_X11_away x_t_X11_away 3 (some .int) := ⟨rfl, rfl, rfl⟩
theorem f_X11_later : x_F n_X11_later x_t_X11_later 3 (some .int) := ⟨rfl, rfl, rfl⟩
theorem f_X11_slack : x_F n_X11_slack x_t_X11_slack 4 (some .int) := ⟨rfl, rfl, rfl⟩
theorem f_X11_without : x_F n_X11_without x_t_X11_without 2 (some .int) := ⟨rfl, rfl, rfl⟩
theorem f_X11_dearest : x_F n_X11_dearest x_t_X11_dearest 2 (some .int) := ⟨rfl, rfl, rfl⟩
theorem f_X11_opened : x_F n_X11_opened x_t_X11_opened 1 (some .int) := ⟨rfl, rfl, rfl⟩
theorem f_X11_busiest : x_F n_X11_busiest x_t_X11_busiest 2 (some .int) := ⟨rfl, rfl, rfl⟩
theorem f_X11_leastAsTold : x_F n_X11_leastAsTold x_t_X11_leastAsTold 1 (some .int) := ⟨rfl, rfl, rfl⟩
theorem f_X11_answerWaits : x_F n_X11_answerWaits x_t_X11_answerWaits 2 (some .int) := ⟨rfl, rfl, rfl⟩
theorem f_X11_keep : x_F n_X11_keep x_t_X11_keep 2 (some .int) := ⟨rfl, rfl, rfl⟩
theorem f_X11_kept : x_F n_X11_kept x_t_X11_kept 2 (some .int) := ⟨rfl, rfl, rfl⟩
theorem f_X11_odds : x_F n_X11_odds x_t_X11_odds 6 (some .boolean) := ⟨rfl, rfl, rfl⟩
theorem f_X11_waits : x_F n_X11_waits x_t_X11_waits 6 (some .int) := ⟨rfl, rfl, rfl⟩
theorem f_X11_wrongSeeds : x_F n_X11_wrongSeeds x_t_X11_wrongSeeds 3 (some .int) := ⟨rfl, rfl, rfl⟩
theorem f_X11_mark : x_F n_X11_mark x_t_X11_mark 1 (some .int) := ⟨rfl, rfl, rfl⟩
theorem f_X11_back : x_F n_X11_back x_t_X11_back 1 (some .int) := ⟨rfl, rfl, rfl⟩
theorem f_X11_answer : x_F n_X11_answer x_t_X11_answer 2 (some .int) := ⟨rfl, rfl, rfl⟩
theorem f_X11_answerLong : x_F n_X11_answerLong x_t_X11_answerLong 3 (some .long) := ⟨rfl, rfl, rfl⟩
theorem f_X11_grant : x_F n_X11_grant x_t_X11_grant 1 (some .boolean) := ⟨rfl, rfl, rfl⟩
theorem f_X11_refuse : x_F n_X11_refuse x_t_X11_refuse 2 (some .int) := ⟨rfl, rfl, rfl⟩
theorem f_X11_deny : x_F n_X11_deny x_t_X11_deny 2 (some .boolean) := ⟨rfl, rfl, rfl⟩
theorem f_X11_tellFraction : x_F n_X11_tellFraction x_t_X11_tellFraction 4 none := ⟨rfl, rfl, rfl⟩
theorem f_X11_commonDivisor : x_F n_X11_commonDivisor x_t_X11_commonDivisor 6 (some .int) := ⟨rfl, rfl, rfl⟩
theorem f_X12_init : x_F n_X12_init x_t_X12_init 1 none := ⟨rfl, rfl, rfl⟩
theorem f_X12_status : x_F n_X12_status x_t_X12_status 1 (some .int) := ⟨rfl, rfl, rfl⟩
theorem f_X12_top : x_F n_X12_top x_t_X12_top 1 (some .long) := ⟨rfl, rfl, rfl⟩
theorem f_X12_bottom : x_F n_X12_bottom x_t_X12_bottom 1 (some .long) := ⟨rfl, rfl, rfl⟩
theorem f_X12_is : x_F n_X12_is x_t_X12_is 2 (some .boolean) := ⟨rfl, rfl, rfl⟩
theorem f_X12_refuse : x_F n_X12_refuse x_t_X12_refuse 2 (some .int) := ⟨rfl, rfl, rfl⟩
theorem f_X12_gives : x_F n_X12_gives x_t_X12_gives 2 (some .int) := ⟨rfl, rfl, rfl⟩
theorem f_X12_orNone : x_F n_X12_orNone x_t_X12_orNone 2 (some .int) := ⟨rfl, rfl, rfl⟩
theorem f_X12_givesLong : x_F n_X12_givesLong x_t_X12_givesLong 3 (some .long) := ⟨rfl, rfl, rfl⟩
theorem f_X12_tellsBy : x_F n_X12_tellsBy x_t_X12_tellsBy 11 (some .boolean) := ⟨rfl, rfl, rfl⟩
theorem f_X12_isTray : x_F n_X12_isTray x_t_X12_isTray 1 (some .boolean) := ⟨rfl, rfl, rfl⟩
theorem f_X12_cut : x_F n_X12_cut x_t_X12_cut 3 (some .long) := ⟨rfl, rfl, rfl⟩
theorem f_X12_tray : x_F n_X12_tray x_t_X12_tray 5 (some .boolean) := ⟨rfl, rfl, rfl⟩
theorem f_X12_wrongPlace : x_F n_X12_wrongPlace x_t_X12_wrongPlace 3 (some .int) := ⟨rfl, rfl, rfl⟩
theorem f_X12_write : x_F n_X12_write x_t_X12_write 6 (some .boolean) := ⟨rfl, rfl, rfl⟩
theorem f_X12_read : x_F n_X12_read x_t_X12_read 3 (some .long) := ⟨rfl, rfl, rfl⟩
theorem f_X12_pour : x_F n_X12_pour x_t_X12_pour 8 (some .boolean) := ⟨rfl, rfl, rfl⟩
theorem f_X12_isFrom : x_F n_X12_isFrom x_t_X12_isFrom 6 (some .boolean) := ⟨rfl, rfl, rfl⟩
theorem f_X12_feed : x_F n_X12_feed x_t_X12_feed 6 (some .int) := ⟨rfl, rfl, rfl⟩
theorem f_X12_four : x_F n_X12_four x_t_X12_four 3 none := ⟨rfl, rfl, rfl⟩
theorem f_X12_byteAt : x_F n_X12_byteAt x_t_X12_byteAt 2 (some .int) := ⟨rfl, rfl, rfl⟩
theorem f_X12_isSmall : x_F n_X12_isSmall x_t_X12_isSmall 1 (some .boolean) := ⟨rfl, rfl, rfl⟩
theorem f_X12_isDigit : x_F n_X12_isDigit x_t_X12_isDigit 1 (some .boolean) := ⟨rfl, rfl, rfl⟩
theorem f_X12_ahead : x_F n_X12_ahead x_t_X12_ahead 2 none := ⟨rfl, rfl, rfl⟩
theorem f_X12_isSign : x_F n_X12_isSign x_t_X12_isSign 2 (some .boolean) := ⟨rfl, rfl, rfl⟩
theorem f_X12_inWords : x_F n_X12_inWords x_t_X12_inWords 7 (some .int) := ⟨rfl, rfl, rfl⟩
theorem f_X12_fails : x_F n_X12_fails x_t_X12_fails 2 (some .boolean) := ⟨rfl, rfl, rfl⟩
theorem f_X12_begins : x_F n_X12_begins x_t_X12_begins 4 (some .boolean) := ⟨rfl, rfl, rfl⟩
theorem f_X12_wantSign : x_F n_X12_wantSign x_t_X12_wantSign 2 (some .boolean) := ⟨rfl, rfl, rfl⟩
theorem f_X12_wantWord : x_F n_X12_wantWord x_t_X12_wantWord 3 (some .boolean) := ⟨rfl, rfl, rfl⟩
theorem f_X12_number : x_F n_X12_number x_t_X12_number 4 (some .boolean) := ⟨rfl, rfl, rfl⟩
theorem f_X12_isName : x_F n_X12_isName x_t_X12_isName 2 (some .boolean) := ⟨rfl, rfl, rfl⟩
theorem f_X12_nameHere : x_F n_X12_nameHere x_t_X12_nameHere 4 (some .long) := ⟨rfl, rfl, rfl⟩
theorem f_X12_findHere : x_F n_X12_findHere x_t_X12_findHere 4 (some .int) := ⟨rfl, rfl, rfl⟩
theorem f_X12_fault : x_F n_X12_fault x_t_X12_fault 2 (some .int) := ⟨rfl, rfl, rfl⟩
theorem f_X12_taken : x_F n_X12_taken x_t_X12_taken 2 (some .int) := ⟨rfl, rfl, rfl⟩
theorem f_X12_aNewName : x_F n_X12_aNewName x_t_X12_aNewName 2 (some .boolean) := ⟨rfl, rfl, rfl⟩
theorem f_X12_areBlasts : x_F n_X12_areBlasts x_t_X12_areBlasts 2 (some .boolean) := ⟨rfl, rfl, rfl⟩
theorem f_X12_aPort : x_F n_X12_aPort x_t_X12_aPort 6 (some .boolean) := ⟨rfl, rfl, rfl⟩
theorem f_X12_aShip : x_F n_X12_aShip x_t_X12_aShip 2 (some .boolean) := ⟨rfl, rfl, rfl⟩
theorem f_X12_passes : x_F n_X12_passes x_t_X12_passes 2 (some .boolean) := ⟨rfl, rfl, rfl⟩
theorem f_X12_aCart : x_F n_X12_aCart x_t_X12_aCart 2 (some .boolean) := ⟨rfl, rfl, rfl⟩
theorem f_X12_once : x_F n_X12_once x_t_X12_once 2 (some .boolean) := ⟨rfl, rfl, rfl⟩
theorem f_X12_riverPart : x_F n_X12_riverPart x_t_X12_riverPart 3 (some .boolean) := ⟨rfl, rfl, rfl⟩
theorem f_X12_river : x_F n_X12_river x_t_X12_river 4 (some .int) := ⟨rfl, rfl, rfl⟩
theorem f_X12_asksAlso : x_F n_X12_asksAlso x_t_X12_asksAlso 2 none := ⟨rfl, rfl, rfl⟩
theorem f_X12_isDoing : x_F n_X12_isDoing x_t_X12_isDoing 2 (some .boolean) := ⟨rfl, rfl, rfl⟩
theorem f_X12_does : x_F n_X12_does x_t_X12_does 2 none := ⟨rfl, rfl, rfl⟩
theorem f_X12_joins : x_F n_X12_joins x_t_X12_joins 1 none := ⟨rfl, rfl, rfl⟩
theorem f_X12_turnsRound : x_F n_X12_turnsRound x_t_X12_turnsRound 1 none := ⟨rfl, rfl, rfl⟩
theorem f_X12_isWithin : x_F n_X12_isWithin x_t_X12_isWithin 2 (some .boolean) := ⟨rfl, rfl, rfl⟩
theorem f_X12_aCase : x_F n_X12_aCase x_t_X12_aCase 3 (some .boolean) := ⟨rfl, rfl, rfl⟩
theorem f_X12_aOne : x_F n_X12_aOne x_t_X12_aOne 2 (some .boolean) := ⟨rfl, rfl, rfl⟩
theorem f_X12_conditions : x_F n_X12_conditions x_t_X12_conditions 2 (some .boolean) := ⟨rfl, rfl, rfl⟩
theorem f_X12_aRule : x_F n_X12_aRule x_t_X12_aRule 3 (some .boolean) := ⟨rfl, rfl, rfl⟩
theorem f_X12_rules : x_F n_X12_rules x_t_X12_rules 4 (some .int) := ⟨rfl, rfl, rfl⟩
theorem f_X12_isPort : x_F n_X12_isPort x_t_X12_isPort 2 (some .boolean) := ⟨rfl, rfl, rfl⟩
theorem f_X12_isShip : x_F n_X12_isShip x_t_X12_isShip 2 (some .boolean) := ⟨rfl, rfl, rfl⟩
theorem f_X12_isCart : x_F n_X12_isCart x_t_X12_isCart 2 (some .boolean) := ⟨rfl, rfl, rfl⟩
theorem f_X12_told : x_F n_X12_told x_t_X12_told 2 (some .int) := ⟨rfl, rfl, rfl⟩
theorem f_X12_ship : x_F n_X12_ship x_t_X12_ship 3 (some .int) := ⟨rfl, rfl, rfl⟩
theorem f_X12_cart : x_F n_X12_cart x_t_X12_cart 3 (some .int) := ⟨rfl, rfl, rfl⟩
theorem f_X12_beatsOf : x_F n_X12_beatsOf x_t_X12_beatsOf 9 (some .long) := ⟨rfl, rfl, rfl⟩
theorem f_X12_soundOf : x_F n_X12_soundOf x_t_X12_soundOf 2 (some .long) := ⟨rfl, rfl, rfl⟩
theorem f_X12_echoed : x_F n_X12_echoed x_t_X12_echoed 3 (some .long) := ⟨rfl, rfl, rfl⟩
theorem f_X12_heardOf : x_F n_X12_heardOf x_t_X12_heardOf 2 (some .long) := ⟨rfl, rfl, rfl⟩
theorem f_X12_bits : x_F n_X12_bits x_t_X12_bits 5 (some .int) := ⟨rfl, rfl, rfl⟩
theorem f_X12_sound : x_F n_X12_sound x_t_X12_sound 2 (some .long) := ⟨rfl, rfl, rfl⟩
theorem f_X12_heard : x_F n_X12_heard x_t_X12_heard 2 (some .long) := ⟨rfl, rfl, rfl⟩
theorem f_X12_together : x_F n_X12_together x_t_X12_together 4 (some .long) := ⟨rfl, rfl, rfl⟩
theorem f_X12_lasts : x_F n_X12_lasts x_t_X12_lasts 5 (some .int) := ⟨rfl, rfl, rfl⟩
theorem f_X12_far : x_F n_X12_far x_t_X12_far 3 (some .int) := ⟨rfl, rfl, rfl⟩
theorem f_X12_reads : x_F n_X12_reads x_t_X12_reads 4 none := ⟨rfl, rfl, rfl⟩
theorem f_X12_findsReadings : x_F n_X12_findsReadings x_t_X12_findsReadings 7 none := ⟨rfl, rfl, rfl⟩
theorem f_X12_readings : x_F n_X12_readings x_t_X12_readings 4 (some .int) := ⟨rfl, rfl, rfl⟩
theorem f_X12_reading : x_F n_X12_reading x_t_X12_reading 3 (some .int) := ⟨rfl, rfl, rfl⟩
theorem f_X12_doubt : x_F n_X12_doubt x_t_X12_doubt 6 (some .boolean) := ⟨rfl, rfl, rfl⟩
theorem f_X12_alike : x_F n_X12_alike x_t_X12_alike 1 (some .int) := ⟨rfl, rfl, rfl⟩
theorem f_X12_parts : x_F n_X12_parts x_t_X12_parts 5 (some .int) := ⟨rfl, rfl, rfl⟩
theorem f_X12_clearBeats : x_F n_X12_clearBeats x_t_X12_clearBeats 4 (some .int) := ⟨rfl, rfl, rfl⟩
theorem f_X12_alikeBy : x_F n_X12_alikeBy x_t_X12_alikeBy 5 (some .int) := ⟨rfl, rfl, rfl⟩
theorem f_X12_clearEcho : x_F n_X12_clearEcho x_t_X12_clearEcho 2 (some .int) := ⟨rfl, rfl, rfl⟩
theorem f_X12_silent : x_F n_X12_silent x_t_X12_silent 4 (some .int) := ⟨rfl, rfl, rfl⟩
theorem f_X12_laysCalls : x_F n_X12_laysCalls x_t_X12_laysCalls 9 none := ⟨rfl, rfl, rfl⟩
theorem f_X12_isCode : x_F n_X12_isCode x_t_X12_isCode 5 (some .boolean) := ⟨rfl, rfl, rfl⟩
theorem f_X12_code : x_F n_X12_code x_t_X12_code 7 (some .int) := ⟨rfl, rfl, rfl⟩
theorem f_X12_codeAt : x_F n_X12_codeAt x_t_X12_codeAt 2 (some .long) := ⟨rfl, rfl, rfl⟩
theorem f_X12_tellsMinutes : x_F n_X12_tellsMinutes x_t_X12_tellsMinutes 2 none := ⟨rfl, rfl, rfl⟩
theorem f_X12_orders : x_F n_X12_orders x_t_X12_orders 4 none := ⟨rfl, rfl, rfl⟩
theorem f_X12_nextShip : x_F n_X12_nextShip x_t_X12_nextShip 2 (some .int) := ⟨rfl, rfl, rfl⟩
theorem f_X12_nextCart : x_F n_X12_nextCart x_t_X12_nextCart 2 (some .int) := ⟨rfl, rfl, rfl⟩
theorem f_X12_ofShip : x_F n_X12_ofShip x_t_X12_ofShip 3 (some .int) := ⟨rfl, rfl, rfl⟩
theorem f_X12_ofCart : x_F n_X12_ofCart x_t_X12_ofCart 3 (some .int) := ⟨rfl, rfl, rfl⟩
theorem f_X12_turnTime : x_F n_X12_turnTime x_t_X12_turnTime 3 (some .int) := ⟨rfl, rfl, rfl⟩
theorem f_X12_stateOf : x_F n_X12_stateOf x_t_X12_stateOf 4 (some .int) := ⟨rfl, rfl, rfl⟩
theorem f_X12_leftAt : x_F n_X12_leftAt x_t_X12_leftAt 5 (some .int) := ⟨rfl, rfl, rfl⟩
theorem f_X12_mayShip : x_F n_X12_mayShip x_t_X12_mayShip 4 (some .boolean) := ⟨rfl, rfl, rfl⟩
theorem f_X12_mayCart : x_F n_X12_mayCart x_t_X12_mayCart 4 (some .boolean) := ⟨rfl, rfl, rfl⟩
theorem f_X12_byShip : x_F n_X12_byShip x_t_X12_byShip 5 (some .int) := ⟨rfl, rfl, rfl⟩
theorem f_X12_byCart : x_F n_X12_byCart x_t_X12_byCart 5 (some .int) := ⟨rfl, rfl, rfl⟩
theorem f_X12_reckons : x_F n_X12_reckons x_t_X12_reckons 6 (some .int) := ⟨rfl, rfl, rfl⟩
theorem f_X12_leastBy : x_F n_X12_leastBy x_t_X12_leastBy 3 (some .int) := ⟨rfl, rfl, rfl⟩
theorem f_X12_least : x_F n_X12_least x_t_X12_least 1 (some .int) := ⟨rfl, rfl, rfl⟩
theorem f_X12_acts : x_F n_X12_acts x_t_X12_acts 4 none := ⟨rfl, rfl, rfl⟩
theorem f_X12_plans : x_F n_X12_plans x_t_X12_plans 6 (some .boolean) := ⟨rfl, rfl, rfl⟩
theorem f_X12_plan : x_F n_X12_plan x_t_X12_plan 2 (some .int) := ⟨rfl, rfl, rfl⟩
theorem f_X12_planAt : x_F n_X12_planAt x_t_X12_planAt 3 (some .int) := ⟨rfl, rfl, rfl⟩
theorem f_X12_worth : x_F n_X12_worth x_t_X12_worth 3 (some .int) := ⟨rfl, rfl, rfl⟩
theorem f_X12_quicker : x_F n_X12_quicker x_t_X12_quicker 2 (some .int) := ⟨rfl, rfl, rfl⟩
theorem f_X12_away : x_F n_X12_away x_t_X12_away 3 (some .int) := ⟨rfl, rfl, rfl⟩
theorem f_X12_later : x_F n_X12_later x_t_X12_later 3 (some .int) := ⟨rfl, rfl, rfl⟩
theorem f_X12_laterBy : x_F n_X12_laterBy x_t_X12_laterBy 3 (some .int) := ⟨rfl, rfl, rfl⟩
theorem f_X12_slack : x_F n_X12_slack x_t_X12_slack 6 (some .int) := ⟨rfl, rfl, rfl⟩
theorem f_X12_without : x_F n_X12_without x_t_X12_without 3 (some .int) := ⟨rfl, rfl, rfl⟩
theorem f_X12_cameBy : x_F n_X12_cameBy x_t_X12_cameBy 2 (some .int) := ⟨rfl, rfl, rfl⟩
theorem f_X12_costsBy : x_F n_X12_costsBy x_t_X12_costsBy 2 (some .int) := ⟨rfl, rfl, rfl⟩
theorem f_X12_dearest : x_F n_X12_dearest x_t_X12_dearest 6 (some .int) := ⟨rfl, rfl, rfl⟩
theorem f_X12_opened : x_F n_X12_opened x_t_X12_opened 4 (some .int) := ⟨rfl, rfl, rfl⟩
theorem f_X12_busiest : x_F n_X12_busiest x_t_X12_busiest 6 (some .int) := ⟨rfl, rfl, rfl⟩
theorem f_X12_draw : x_F n_X12_draw x_t_X12_draw 1 (some .int) := ⟨rfl, rfl, rfl⟩
theorem f_X12_waitingShips : x_F n_X12_waitingShips x_t_X12_waitingShips 3 (some .int) := ⟨rfl, rfl, rfl⟩
theorem f_X12_waitingCarts : x_F n_X12_waitingCarts x_t_X12_waitingCarts 3 (some .int) := ⟨rfl, rfl, rfl⟩
theorem f_X12_nextIn : x_F n_X12_nextIn x_t_X12_nextIn 2 (some .int) := ⟨rfl, rfl, rfl⟩
theorem f_X12_asked : x_F n_X12_asked x_t_X12_asked 6 (some .boolean) := ⟨rfl, rfl, rfl⟩
theorem f_X12_holds : x_F n_X12_holds x_t_X12_holds 5 (some .boolean) := ⟨rfl, rfl, rfl⟩
theorem f_X12_actNow : x_F n_X12_actNow x_t_X12_actNow 2 (some .int) := ⟨rfl, rfl, rfl⟩
theorem f_X12_passesOver : x_F n_X12_passesOver x_t_X12_passesOver 1 none := ⟨rfl, rfl, rfl⟩
theorem f_X12_isBusy : x_F n_X12_isBusy x_t_X12_isBusy 1 (some .boolean) := ⟨rfl, rfl, rfl⟩
theorem f_X12_strikes : x_F n_X12_strikes x_t_X12_strikes 3 none := ⟨rfl, rfl, rfl⟩
theorem f_X12_minuteGoes : x_F n_X12_minuteGoes x_t_X12_minuteGoes 2 none := ⟨rfl, rfl, rfl⟩
theorem f_X12_leftOver : x_F n_X12_leftOver x_t_X12_leftOver 3 (some .int) := ⟨rfl, rfl, rfl⟩
theorem f_X12_keeps : x_F n_X12_keeps x_t_X12_keeps 3 none := ⟨rfl, rfl, rfl⟩
theorem f_X12_keep : x_F n_X12_keep x_t_X12_keep 2 (some .int) := ⟨rfl, rfl, rfl⟩
theorem f_X12_kept : x_F n_X12_kept x_t_X12_kept 2 (some .int) := ⟨rfl, rfl, rfl⟩
theorem f_X12_areSeeds : x_F n_X12_areSeeds x_t_X12_areSeeds 3 (some .boolean) := ⟨rfl, rfl, rfl⟩
theorem f_X12_odds : x_F n_X12_odds x_t_X12_odds 5 (some .boolean) := ⟨rfl, rfl, rfl⟩
theorem f_X12_waits : x_F n_X12_waits x_t_X12_waits 5 (some .int) := ⟨rfl, rfl, rfl⟩
theorem f_X12_copies : x_F n_X12_copies x_t_X12_copies 4 none := ⟨rfl, rfl, rfl⟩
theorem f_X12_mark : x_F n_X12_mark x_t_X12_mark 1 (some .int) := ⟨rfl, rfl, rfl⟩
theorem f_X12_back : x_F n_X12_back x_t_X12_back 1 (some .int) := ⟨rfl, rfl, rfl⟩
theorem f_J6_numberOfLeadingZeros_0f7a4 : x_F n_J6_numberOfLeadingZeros_0f7a4 x_t_J6_numberOfLeadingZeros_0f7a4 2 (some .int) := ⟨rfl, rfl, rfl⟩
theorem f_J6_numberOfTrailingZeros_0f7a4 : x_F n_J6_numberOfTrailingZeros_0f7a4 x_t_J6_numberOfTrailingZeros_0f7a4 2 (some .int) := ⟨rfl, rfl, rfl⟩
theorem f_J6_bitCount_0f7a4 : x_F n_J6_bitCount_0f7a4 x_t_J6_bitCount_0f7a4 1 (some .int) := ⟨rfl, rfl, rfl⟩
theorem f_J13_numberOfLeadingZeros_95d88 : x_F n_J13_numberOfLeadingZeros_95d88 x_t_J13_numberOfLeadingZeros_95d88 3 (some .int) := ⟨rfl, rfl, rfl⟩
theorem f_J13_numberOfTrailingZeros_95d88 : x_F n_J13_numberOfTrailingZeros_95d88 x_t_J13_numberOfTrailingZeros_95d88 3 (some .int) := ⟨rfl, rfl, rfl⟩
theorem f_J13_bitCount_95d88 : x_F n_J13_bitCount_95d88 x_t_J13_bitCount_95d88 2 (some .int) := ⟨rfl, rfl, rfl⟩
theorem f_J0_length_8abf5 : x_F n_J0_length_8abf5 x_t_J0_length_8abf5 1 (some .int) := ⟨rfl, rfl, rfl⟩
theorem f_J0_charAt_5068e : x_F n_J0_charAt_5068e x_t_J0_charAt_5068e 2 (some .char) := ⟨rfl, rfl, rfl⟩
theorem f_J0_coder_7d493 : x_F n_J0_coder_7d493 x_t_J0_coder_7d493 1 (some .byte) := ⟨rfl, rfl, rfl⟩
theorem f_J0_isLatin1_aae02 : x_F n_J0_isLatin1_aae02 x_t_J0_isLatin1_aae02 1 (some .boolean) := ⟨rfl, rfl, rfl⟩
theorem f_J0_checkIndex_df160 : x_F n_J0_checkIndex_df160 x_t_J0_checkIndex_df160 2 none := ⟨rfl, rfl, rfl⟩
theorem f_J1_charAt_3b067 : x_F n_J1_charAt_3b067 x_t_J1_charAt_3b067 2 (some .char) := ⟨rfl, rfl, rfl⟩
theorem f_J2_getChar_3b067 : x_F n_J2_getChar_3b067 x_t_J2_getChar_3b067 2 (some .char) := ⟨rfl, rfl, rfl⟩
theorem f_J2_length_9d52b : x_F n_J2_length_9d52b x_t_J2_length_9d52b 1 (some .int) := ⟨rfl, rfl, rfl⟩
theorem f_J2_charAt_3b067 : x_F n_J2_charAt_3b067 x_t_J2_charAt_3b067 2 (some .char) := ⟨rfl, rfl, rfl⟩
theorem f_J2_checkIndex_2214a : x_F n_J2_checkIndex_2214a x_t_J2_checkIndex_2214a 2 none := ⟨rfl, rfl, rfl⟩
theorem f_J3_checkIndex_8e157 : x_F n_J3_checkIndex_8e157 x_t_J3_checkIndex_8e157 3 (some .int) := ⟨rfl, rfl, rfl⟩
theorem f_L_law : x_F n_L_law x_t_L_law 4 (some .boolean) := ⟨rfl, rfl, rfl⟩
end
section
/-! ===== small methods of the class ===== -/
section XS1
variable {X : x_Ext} {d mi ml : Nat} {P : Option Value → x_G → Prop} {T : List (Nat × x_Row)} {rt : Option FieldType}
variable {sh : List (Nat ⊕ (Nat × Nat))} {gi : Nat → Nat → Int32} {gl : Nat → Nat → Int64} {gr : Nat → Nat → Value} {k ci : Nat} {as : List Value}
theorem me_i (F : x_F mi T ml rt) (hk : sh[k]? = some (.inl ci)) (hm : x_mci mi = ci) (h12 : decide (ci < 12) = true) (hw : decide (x_words (.ref k :: as) ≤ ml) = true) (h : x_Ev X d mi 0 (lv_args 0 (.ref k :: as)) [] (sh, gi, gl, gr) P) : x_Me X d mi (.ref k :: as) (sh, gi, gl, gr) P := by
  refine ⟨by rw [F.2.1]; exact of_decide_eq_true hw, Or.inr ?_, h⟩
  show (match sh[k]? with | some (.inl ci) => ci == x_mci mi && decide (x_mci mi < 12) | _ => false) = true
  rw [hk, hm]
  simp [of_decide_eq_true h12]
theorem me_s {G : x_G} (F : x_F mi T ml rt) (hs : x_stat mi = true) (hw : decide (x_words as ≤ ml) = true) (h : x_Ev X d mi 0 (lv_args 0 as) [] G P) : x_Me X d mi as G P := ⟨by rw [F.2.1]; exact of_decide_eq_true hw, Or.inl hs, h⟩
theorem s_deny (hW : x_WF sh gr) (w : Int32) : x_Me X d n_X11_deny [.ref 0, .int w] (sh, gi, gl, gr) (fun v G' => v = some (.int 0) ∧ G' = (sh, x_up2 gi 0 0 w, gl, gr)) := by
  refine me_i f_X11_deny (hW.s rfl) rfl rfl rfl ?_
  refine ev_loc f_X11_deny (nx := 1) rfl rfl rfl rfl ?_
  refine ev_loc f_X11_deny (nx := 2) rfl rfl rfl rfl ?_
  refine ev_putI f_X11_deny (nx := 5) rfl (hW.s rfl) rfl rfl rfl ?_
  refine ev_ic f_X11_deny (nx := 6) (v := 0) rfl (by decide) rfl ?_
  refine ev_ret f_X11_deny rfl rfl rfl ?_
  exact ⟨rfl, rfl⟩
theorem s_grant (hW : x_WF sh gr)  : x_Me X d n_X11_grant [.ref 0] (sh, gi, gl, gr) (fun v G' => v = some (.int 1) ∧ G' = (sh, x_up2 gi 0 0 0, gl, gr)) := by
  refine me_i f_X11_grant (hW.s rfl) rfl rfl rfl ?_
  refine ev_loc f_X11_grant (nx := 1) rfl rfl rfl rfl ?_
  refine ev_ic f_X11_grant (nx := 2) (v := 0) rfl (by decide) rfl ?_
  refine ev_putI f_X11_grant (nx := 5) rfl (hW.s rfl) rfl rfl rfl ?_
  refine ev_ic f_X11_grant (nx := 6) (v := 1) rfl (by decide) rfl ?_
  refine ev_ret f_X11_grant rfl rfl rfl ?_
  exact ⟨rfl, rfl⟩
theorem s_refuse (hW : x_WF sh gr) (w : Int32) : x_Me X d n_X11_refuse [.ref 0, .int w] (sh, gi, gl, gr) (fun v G' => v = some (.int (-1)) ∧ G' = (sh, x_up2 gi 0 0 w, gl, gr)) := by
  refine me_i f_X11_refuse (hW.s rfl) rfl rfl rfl ?_
  refine ev_loc f_X11_refuse (nx := 1) rfl rfl rfl rfl ?_
  refine ev_loc f_X11_refuse (nx := 2) rfl rfl rfl rfl ?_
  refine ev_putI f_X11_refuse (nx := 5) rfl (hW.s rfl) rfl rfl rfl ?_
  refine ev_ic f_X11_refuse (nx := 6) (v := -1) rfl (by decide) rfl ?_
  refine ev_ret f_X11_refuse rfl rfl rfl ?_
  exact ⟨rfl, rfl⟩
theorem s_answer (hW : x_WF sh gr) (w : Int32) : x_Me X d n_X11_answer [.ref 0, .int w] (sh, gi, gl, gr) (fun v G' => v = some (.int w) ∧ G' = (sh, x_up2 gi 0 0 0, gl, gr)) := by
  refine me_i f_X11_answer (hW.s rfl) rfl rfl rfl ?_
  refine ev_loc f_X11_answer (nx := 1) rfl rfl rfl rfl ?_
  refine ev_ic f_X11_answer (nx := 2) (v := 0) rfl (by decide) rfl ?_
  refine ev_putI f_X11_answer (nx := 5) rfl (hW.s rfl) rfl rfl rfl ?_
  refine ev_loc f_X11_answer (nx := 6) rfl rfl rfl rfl ?_
  refine ev_ret f_X11_answer rfl rfl rfl ?_
  exact ⟨rfl, rfl⟩
theorem s_answerL (hW : x_WF sh gr) (w : Int64) : x_Me X d n_X11_answerLong [.ref 0, .long w] (sh, gi, gl, gr) (fun v G' => v = some (.long w) ∧ G' = (sh, x_up2 gi 0 0 0, gl, gr)) := by
  refine me_i f_X11_answerLong (hW.s rfl) rfl rfl rfl ?_
  refine ev_loc f_X11_answerLong (nx := 1) rfl rfl rfl rfl ?_
  refine ev_ic f_X11_answerLong (nx := 2) (v := 0) rfl (by decide) rfl ?_
  refine ev_putI f_X11_answerLong (nx := 5) rfl (hW.s rfl) rfl rfl rfl ?_
  refine ev_loc f_X11_answerLong (nx := 6) rfl rfl rfl rfl ?_
  refine ev_ret f_X11_answerLong rfl rfl rfl ?_
  exact ⟨rfl, rfl⟩
theorem s_status (hW : x_WF sh gr)  : x_Me X d n_X11_status [.ref 0] (sh, gi, gl, gr) (fun v G' => v = some (.int (gi 0 0)) ∧ G' = (sh, gi, gl, gr)) := by
  refine me_i f_X11_status (hW.s rfl) rfl rfl rfl ?_
  refine ev_loc f_X11_status (nx := 1) rfl rfl rfl rfl ?_
  refine ev_getI f_X11_status (nx := 4) rfl (hW.s rfl) rfl rfl rfl ?_
  refine ev_ret f_X11_status rfl rfl rfl ?_
  exact ⟨rfl, rfl⟩
theorem s_top (hW : x_WF sh gr)  : x_Me X d n_X11_top [.ref 0] (sh, gi, gl, gr) (fun v G' => v = some (.long (gl 0 1)) ∧ G' = (sh, gi, gl, gr)) := by
  refine me_i f_X11_top (hW.s rfl) rfl rfl rfl ?_
  refine ev_loc f_X11_top (nx := 1) rfl rfl rfl rfl ?_
  refine ev_getL f_X11_top (nx := 4) rfl (hW.s rfl) rfl rfl rfl ?_
  refine ev_ret f_X11_top rfl rfl rfl ?_
  exact ⟨rfl, rfl⟩
theorem s_fault (hW : x_WF sh gr) (w : Int32) : x_Me X d n_X11_fault [.ref 0, .int w] (sh, gi, gl, gr) (fun v G' => v = some (.int (if w = 0 then gi 0 8 else if w = 1 then gi 0 9 else -1)) ∧ G' = (sh, gi, gl, gr)) := by
  refine me_i f_X11_fault (hW.s rfl) rfl rfl rfl ?_
  refine ev_loc f_X11_fault (nx := 1) rfl rfl rfl rfl ?_
  refine ev_if f_X11_fault (t1 := 4) (t2 := 9) rfl rfl rfl (fun h1 => ?_) (fun h1 => ?_)
  · refine ev_loc f_X11_fault (nx := 5) rfl rfl rfl rfl ?_
    refine ev_getI f_X11_fault (nx := 8) rfl (hW.s rfl) rfl rfl rfl ?_
    refine ev_ret f_X11_fault rfl rfl rfl ?_
    simp_all
  · refine ev_loc f_X11_fault (nx := 10) rfl rfl rfl rfl ?_
    refine ev_ic f_X11_fault (nx := 11) (v := 1) rfl (by decide) rfl ?_
    refine ev_if f_X11_fault (t1 := 14) (t2 := 21) rfl rfl rfl (fun h11 => ?_) (fun h11 => ?_)
    · refine ev_loc f_X11_fault (nx := 15) rfl rfl rfl rfl ?_
      refine ev_getI f_X11_fault (nx := 18) rfl (hW.s rfl) rfl rfl rfl ?_
      refine ev_jmp f_X11_fault (nx := 22) rfl rfl rfl ?_
      refine ev_ret f_X11_fault rfl rfl rfl ?_
      simp_all
    · refine ev_ic f_X11_fault (nx := 22) (v := -1) rfl (by decide) rfl ?_
      refine ev_ret f_X11_fault rfl rfl rfl ?_
      simp_all
end XS1
end
section
/-! ===== the TRAYS of the class ===== -/
def x_zl (gl : Nat → Nat → Int64) (a n : Nat) : Nat → Nat → Int64 := fun p => if p = a then (fun b => if b < n then 0 else gl a b) else gl p
theorem x_zl_0 (gl : Nat → Nat → Int64) (a : Nat) : x_zl gl a 0 = gl := by
  funext p b
  unfold x_zl
  by_cases h : p = a
  · subst h; simp
  · simp [h]
theorem x_zl_s (gl : Nat → Nat → Int64) (a i : Nat) : x_up2 (x_zl gl a i) a i 0 = x_zl gl a (i + 1) := by
  funext p b
  unfold x_zl x_up2
  by_cases h : p = a
  · subst h
    simp only [if_true]
    by_cases hb : b = i
    · subst hb; simp
    · simp only [hb, if_false]
      by_cases hbi : b < i
      · simp [hbi, Nat.lt_succ_of_lt hbi]
      · rw [if_neg hbi, if_neg (by omega)]
  · simp [h]
section XS2
variable {X : x_Ext} {d : Nat}
variable {sh : List (Nat ⊕ (Nat × Nat))} {gi : Nat → Nat → Int32} {gl : Nat → Nat → Int64} {gr : Nat → Nat → Value} {k a : Nat}
theorem l_lay (hk : sh[k]? = some (.inl 9)) (hr : gr k 0 = .ref a) (ha : sh[a]? = some (.inr (1, 60))) (s m : Int32) : ∀ (n i : Nat), i ≤ 60 → 60 < i + n → x_Ev X d n_X10_lay 12 [(3, .int (nI i)), (0, .ref k), (1, .int s), (2, .int m)] [] (sh, gi, x_zl gl a i, gr) (fun v G' => v = none ∧ G' = (sh, gi, x_zl gl a 60, gr)) := by
  intro n
  induction n with
  | zero => intro i h1 h2; omega
  | succ n ih =>
    intro i h1 h2
    refine ev_loc f_X10_lay (nx := 13) rfl rfl rfl rfl ?_
    refine ev_loc f_X10_lay (nx := 14) rfl rfl rfl rfl ?_
    refine ev_getR f_X10_lay (nx := 17) rfl hk rfl rfl hr rfl rfl ?_
    refine ev_alen f_X10_lay (nx := 18) rfl ha rfl rfl ?_
    refine ev_if f_X10_lay (t1 := 34) (t2 := 21) rfl rfl rfl (fun h18 => ?_) (fun h18 => ?_)
    · have e : i = 60 := by
        have := (nI_leI (a := 60) (by omega) (by omega)).mp h18
        omega
      subst e
      exact ev_ret f_X10_lay rfl rfl rfl ⟨rfl, rfl⟩
    · have hi : i < 60 := by
        rcases Nat.lt_or_ge i 60 with q | q
        · exact q
        · exact absurd ((nI_leI (a := 60) (by omega) (by omega)).mpr q) h18
      refine ev_loc f_X10_lay (nx := 22) rfl rfl rfl rfl ?_
      refine ev_getR f_X10_lay (nx := 25) rfl hk rfl rfl hr rfl rfl ?_
      refine ev_loc f_X10_lay (nx := 26) rfl rfl rfl rfl ?_
      refine ev_lc f_X10_lay (nx := 27) (v := 0) rfl (by decide) rfl ?_
      refine ev_last f_X10_lay (nx := 28) rfl ha (nI_pos (by omega)) (by rw [nI_clamp (by omega)]; omega) rfl ?_
      refine ev_inc f_X10_lay (nx := 31) (c := 1) rfl rfl (by decide) rfl rfl rfl ?_
      refine ev_jmp f_X10_lay (nx := 12) rfl rfl rfl ?_
      rw [nI_clamp (by omega), x_zl_s]
      exact ev_lo (congrArg (fun z => [(3, Value.int z), (0, .ref k), (1, .int s), (2, .int m)]) (nI_1 i)) (ih (i + 1) (by omega) (by omega))
theorem s_lay (hk : sh[k]? = some (.inl 9)) (hr : gr k 0 = .ref a) (ha : sh[a]? = some (.inr (1, 60))) (s m : Int32) : x_Me X d n_X10_lay [.ref k, .int s, .int m] (sh, gi, gl, gr) (fun v G' => v = none ∧ G' = (sh, x_up2 (x_up2 gi k 1 s) k 2 m, x_zl gl a 60, gr)) := by
  refine me_i f_X10_lay hk rfl rfl rfl ?_
  refine ev_loc f_X10_lay (nx := 1) rfl rfl rfl rfl ?_
  refine ev_loc f_X10_lay (nx := 2) rfl rfl rfl rfl ?_
  refine ev_putI f_X10_lay (nx := 5) rfl hk rfl rfl rfl ?_
  refine ev_loc f_X10_lay (nx := 6) rfl rfl rfl rfl ?_
  refine ev_loc f_X10_lay (nx := 7) rfl rfl rfl rfl ?_
  refine ev_putI f_X10_lay (nx := 10) rfl hk rfl rfl rfl ?_
  refine ev_ic f_X10_lay (nx := 11) (v := 0) rfl (by decide) rfl ?_
  refine ev_loc f_X10_lay (nx := 12) rfl rfl rfl rfl ?_
  have h := l_lay (X := X) (d := d) (gi := x_up2 (x_up2 gi k 1 s) k 2 m) (gl := gl) hk hr ha s m 61 0 (by omega) (by omega)
  rw [x_zl_0] at h
  exact h
theorem s_isMissing (hk : sh[k]? = some (.inl 9))  : x_Me X d n_X10_isMissing [.ref k] (sh, gi, gl, gr) (fun v G' => v = some (.int (if gi k 2 = -1 then 1 else 0)) ∧ G' = (sh, gi, gl, gr)) := by
  refine me_i f_X10_isMissing hk rfl rfl rfl ?_
  refine ev_loc f_X10_isMissing (nx := 1) rfl rfl rfl rfl ?_
  refine ev_getI f_X10_isMissing (nx := 4) rfl hk rfl rfl rfl ?_
  refine ev_ic f_X10_isMissing (nx := 5) (v := -1) rfl (by decide) rfl ?_
  refine ev_if f_X10_isMissing (t1 := 8) (t2 := 12) rfl rfl rfl (fun h5 => ?_) (fun h5 => ?_)
  · refine ev_ic f_X10_isMissing (nx := 9) (v := 1) rfl (by decide) rfl ?_
    refine ev_jmp f_X10_isMissing (nx := 13) rfl rfl rfl ?_
    refine ev_ret f_X10_isMissing rfl rfl rfl ?_
    exact ⟨by simp_all, rfl⟩
  · refine ev_ic f_X10_isMissing (nx := 13) (v := 0) rfl (by decide) rfl ?_
    refine ev_ret f_X10_isMissing rfl rfl rfl ?_
    exact ⟨by simp_all, rfl⟩
theorem s_hasStretch (hk : sh[k]? = some (.inl 9)) (p n : Int32) : x_Me X d n_X10_hasStretch [.ref k, .int p, .int n] (sh, gi, gl, gr) (fun v G' => v = some (.int (if p ≤ gi k 2 ∧ n ≤ gi k 2 - p then 1 else 0)) ∧ G' = (sh, gi, gl, gr)) := by
  refine me_i f_X10_hasStretch hk rfl rfl rfl ?_
  refine ev_loc f_X10_hasStretch (nx := 1) rfl rfl rfl rfl ?_
  refine ev_loc f_X10_hasStretch (nx := 2) rfl rfl rfl rfl ?_
  refine ev_getI f_X10_hasStretch (nx := 5) rfl hk rfl rfl rfl ?_
  refine ev_if f_X10_hasStretch (t1 := 22) (t2 := 8) rfl rfl rfl (fun h5 => ?_) (fun h5 => ?_)
  · refine ev_ic f_X10_hasStretch (nx := 23) (v := 0) rfl (by decide) rfl ?_
    refine ev_ret f_X10_hasStretch rfl rfl rfl ?_
    refine ⟨?_, rfl⟩
    first
      | (rw [if_pos ⟨Int32.not_lt.mp (by assumption), Int32.not_lt.mp (by assumption)⟩])
      | (rw [if_neg (fun q => absurd (Int32.not_lt.mpr q.1) (by simpa using by assumption))])
      | (rw [if_neg (fun q => absurd (Int32.not_lt.mpr q.2) (by simpa using by assumption))])
  · refine ev_loc f_X10_hasStretch (nx := 9) rfl rfl rfl rfl ?_
    refine ev_loc f_X10_hasStretch (nx := 10) rfl rfl rfl rfl ?_
    refine ev_getI f_X10_hasStretch (nx := 13) rfl hk rfl rfl rfl ?_
    refine ev_loc f_X10_hasStretch (nx := 14) rfl rfl rfl rfl ?_
    refine ev_alu f_X10_hasStretch (nx := 15) rfl rfl rfl rfl ?_
    refine ev_if f_X10_hasStretch (t1 := 22) (t2 := 18) rfl rfl rfl (fun h15 => ?_) (fun h15 => ?_)
    · refine ev_ic f_X10_hasStretch (nx := 23) (v := 0) rfl (by decide) rfl ?_
      refine ev_ret f_X10_hasStretch rfl rfl rfl ?_
      refine ⟨?_, rfl⟩
      first
        | (rw [if_pos ⟨Int32.not_lt.mp (by assumption), Int32.not_lt.mp (by assumption)⟩])
        | (rw [if_neg (fun q => absurd (Int32.not_lt.mpr q.1) (by simpa using by assumption))])
        | (rw [if_neg (fun q => absurd (Int32.not_lt.mpr q.2) (by simpa using by assumption))])
    · refine ev_ic f_X10_hasStretch (nx := 19) (v := 1) rfl (by decide) rfl ?_
      refine ev_jmp f_X10_hasStretch (nx := 23) rfl rfl rfl ?_
      refine ev_ret f_X10_hasStretch rfl rfl rfl ?_
      refine ⟨?_, rfl⟩
      first
        | (rw [if_pos ⟨Int32.not_lt.mp (by assumption), Int32.not_lt.mp (by assumption)⟩])
        | (rw [if_neg (fun q => absurd (Int32.not_lt.mpr q.1) (by simpa using by assumption))])
        | (rw [if_neg (fun q => absurd (Int32.not_lt.mpr q.2) (by simpa using by assumption))])
end XS2
end
section
/-! ===== a quick machine for closed runs: the world as a tree ===== -/
abbrev x_T (α : Type) : Type := Lean.RArray (Option α)
abbrev x_Te {α : Type} : x_T α := .leaf none
abbrev x_Tn {α : Type} (a b : x_T α) : x_T α := .branch 0 a b
noncomputable def x_tg {α : Type} (d : Nat) : x_T α → Nat → Option α :=
  Nat.rec (fun t _ => match t with | .leaf o => o | .branch _ _ _ => none) (fun _ ih t i => match t with | .branch _ a b => cond (Nat.beq (Nat.mod i 2) 0) (ih a (Nat.div i 2)) (ih b (Nat.div i 2)) | .leaf _ => none) d
noncomputable def x_tp {α β : Type} (d : Nat) : x_T α → Nat → α → (x_T α → β) → β :=
  Nat.rec (fun _ _ v c => c (.leaf (some v))) (fun _ ih t i v c => match t with
    | .branch _ a b => cond (Nat.beq (Nat.mod i 2) 0) (ih a (Nat.div i 2) v (fun a' => c (x_Tn a' b))) (ih b (Nat.div i 2) v (fun b' => c (x_Tn a b')))
    | .leaf _ => cond (Nat.beq (Nat.mod i 2) 0) (ih x_Te (Nat.div i 2) v (fun a' => c (x_Tn a' x_Te))) (ih x_Te (Nat.div i 2) v (fun b' => c (x_Tn x_Te b')))) d
noncomputable def x_ts {α : Type} (d : Nat) (t : x_T α) (i : Nat) (v : α) : x_T α := x_tp d t i v id
theorem x_tg_0 {α : Type} (t : x_T α) (i : Nat) : x_tg 0 t i = match t with | .leaf o => o | .branch _ _ _ => none := rfl
theorem x_tg_s {α : Type} (d : Nat) (t : x_T α) (i : Nat) : x_tg (d + 1) t i = match t with | .branch _ a b => cond (Nat.beq (Nat.mod i 2) 0) (x_tg d a (Nat.div i 2)) (x_tg d b (Nat.div i 2)) | .leaf _ => none := rfl
theorem x_tp_0 {α β : Type} (t : x_T α) (i : Nat) (v : α) (c : x_T α → β) : x_tp 0 t i v c = c (.leaf (some v)) := rfl
theorem x_tp_s {α β : Type} (d : Nat) (t : x_T α) (i : Nat) (v : α) (c : x_T α → β) : x_tp (d + 1) t i v c = match t with
    | .branch _ a b => cond (Nat.beq (Nat.mod i 2) 0) (x_tp d a (Nat.div i 2) v (fun a' => c (x_Tn a' b))) (x_tp d b (Nat.div i 2) v (fun b' => c (x_Tn a b')))
    | .leaf _ => cond (Nat.beq (Nat.mod i 2) 0) (x_tp d x_Te (Nat.div i 2) v (fun a' => c (x_Tn a' x_Te))) (x_tp d x_Te (Nat.div i 2) v (fun b' => c (x_Tn x_Te b'))) := rfl
theorem x_tp_eq' {α : Type} : ∀ (d : Nat) (β : Type) (t : x_T α) (i : Nat) (v : α) (c : x_T α → β), x_tp d t i v c = c (x_ts d t i v) := by
  intro d
  induction d with
  | zero => intro β t i v c; rfl
  | succ d ih =>
    intro β t i v c
    unfold x_ts
    rw [x_tp_s, x_tp_s]
    cases hb : Nat.beq (Nat.mod i 2) 0 <;> cases t <;> simp only [cond, ih, id]
theorem x_tp_eq {α β : Type} (d : Nat) (t : x_T α) (i : Nat) (v : α) (c : x_T α → β) : x_tp d t i v c = c (x_ts d t i v) := x_tp_eq' d β t i v c
theorem x_tg_e {α : Type} (d i : Nat) : x_tg d (x_Te : x_T α) i = none := by cases d <;> rfl
theorem x_ts_s {α : Type} (d : Nat) (t : x_T α) (i : Nat) (v : α) : x_ts (d + 1) t i v = match t with
    | .branch _ a b => cond (Nat.beq (Nat.mod i 2) 0) (x_Tn (x_ts d a (Nat.div i 2) v) b) (x_Tn a (x_ts d b (Nat.div i 2) v))
    | .leaf _ => cond (Nat.beq (Nat.mod i 2) 0) (x_Tn (x_ts d x_Te (Nat.div i 2) v) x_Te) (x_Tn x_Te (x_ts d x_Te (Nat.div i 2) v)) := by
  show x_tp (d + 1) t i v id = _
  rw [x_tp_s]
  cases hb : Nat.beq (Nat.mod i 2) 0 <;> cases t <;> simp only [cond] <;> rw [x_tp_eq] <;> rfl
theorem x_half {i j d : Nat} (hi : i < 2 ^ (d + 1)) : Nat.div i 2 < 2 ^ d := by
  show i / 2 < 2 ^ d
  rw [Nat.pow_succ] at hi
  omega
theorem x_tg_ts {α : Type} : ∀ (d : Nat) (t : x_T α) (i j : Nat) (v : α), i < 2 ^ d → j < 2 ^ d → x_tg d (x_ts d t i v) j = if j = i then some v else x_tg d t j := by
  intro d
  induction d with
  | zero =>
    intro t i j v hi hj
    have : j = i := by simp at hi hj; omega
    rw [if_pos this]; rfl
  | succ d ih =>
    intro t i j v hi hj
    have hi2 := x_half (j := 0) hi
    have hj2 := x_half (j := 0) hj
    rw [x_ts_s, x_tg_s, x_tg_s]
    have key : ∀ (x y : Nat), Nat.mod x 2 = Nat.mod y 2 → Nat.div x 2 = Nat.div y 2 → x = y := by
      intro x y h1 h2
      have h1 : x % 2 = y % 2 := h1
      have h2 : x / 2 = y / 2 := h2
      omega
    have m2 : ∀ x : Nat, Nat.beq (Nat.mod x 2) 0 = true ↔ x % 2 = 0 := fun x => ⟨fun h => Nat.eq_of_beq_eq_true h, fun h => by show Nat.beq (x % 2) 0 = true; rw [h]; rfl⟩
    have eqd : ∀ x y : Nat, (Nat.div x 2 = Nat.div y 2) = (x / 2 = y / 2) := fun _ _ => rfl
    cases hb : Nat.beq (Nat.mod i 2) 0 <;> cases hc : Nat.beq (Nat.mod j 2) 0
    all_goals
      have hb' := m2 i; have hc' := m2 j; rw [hb] at hb'; rw [hc] at hc'
      cases t <;> simp only [cond] <;> (try rw [ih _ _ _ _ hi2 hj2]) <;> (try rw [x_tg_e]) <;> (try simp only [eqd])
    all_goals
      simp at hb' hc'
      first
        | (rw [if_neg (by omega)])
        | (by_cases hji : j = i
           · rw [if_pos hji, if_pos (by omega)]
           · rw [if_neg hji, if_neg (by omega)])
noncomputable def x_sqN {β : Type} (n : Nat) (c : Nat → β) : β := Nat.rec (c 0) (fun m _ => c (Nat.succ m)) n
theorem x_sqN_eq {β : Type} (n : Nat) (c : Nat → β) : x_sqN n c = c n := by cases n <;> rfl
/-- the top of the stack is worked out -/
noncomputable def x_sq {β : Type} (st : List Value) (c : List Value → β) : β := match st with
  | .int x :: r => x_sqN x.toUInt32.toBitVec.toNat (fun m => c (.int ⟨⟨BitVec.ofNat 32 m⟩⟩ :: r))
  | .long x :: r => x_sqN x.toUInt64.toBitVec.toNat (fun m => c (.long ⟨⟨BitVec.ofNat 64 m⟩⟩ :: r))
  | s => c s
theorem x_sq_eq {β : Type} (st : List Value) (c : List Value → β) : x_sq st c = c st := by
  unfold x_sq
  split
  · rw [x_sqN_eq, BitVec.ofNat_toNat, BitVec.setWidth_eq]
  · rw [x_sqN_eq, BitVec.ofNat_toNat, BitVec.setWidth_eq]
  · rfl
/-- the rows of a table stand one behind the other -/
def x_ct : Nat → List (Nat × x_Row) → Bool
  | _, [] => true
  | k, q :: r => Nat.beq q.1 k && Nat.ble 1 q.2.2.1 && x_ct (Nat.add k q.2.2.1) r
noncomputable def x_tb (mi : Nat) : List (Nat × x_Row) := cond (x_ct 0 (x_tab mi)) (x_tab mi) []
theorem x_tb_or (mi : Nat) : x_ct 0 (x_tab mi) = true ∧ x_tb mi = x_tab mi ∨ x_tb mi = [] := by
  unfold x_tb
  cases h : x_ct 0 (x_tab mi)
  · exact Or.inr rfl
  · exact Or.inl ⟨rfl, rfl⟩
theorem x_ct_app : ∀ (pre : List (Nat × x_Row)) (k : Nat) (q : Nat × x_Row) (r : List (Nat × x_Row)), x_ct k (pre ++ q :: r) = true → k ≤ q.1 ∧ (pre ++ q :: r).lookup q.1 = some q.2 ∧ x_ct (q.1 + q.2.2.1) r = true
  | [], k, q, r, h => by
    rw [List.nil_append, x_ct, Bool.and_eq_true, Bool.and_eq_true] at h
    have h1 : q.1 = k := Nat.eq_of_beq_eq_true h.1.1
    refine ⟨by omega, by rw [List.nil_append, List.lookup_cons]; simp, ?_⟩
    rw [h1]; exact h.2
  | p :: pre, k, q, r, h => by
    rw [List.cons_append, x_ct, Bool.and_eq_true, Bool.and_eq_true] at h
    have h1 : p.1 = k := Nat.eq_of_beq_eq_true h.1.1
    have h2 : 1 ≤ p.2.2.1 := Nat.le_of_ble_eq_true h.1.2
    obtain ⟨i1, i2, i3⟩ := x_ct_app pre _ q r h.2
    have i1 : k + p.2.2.1 ≤ q.1 := i1
    have hf : (q.1 == p.1) = false := by simp; omega
    refine ⟨by omega, ?_, i3⟩
    rw [List.cons_append, List.lookup_cons, hf]
    exact i2
/-- 'rs' are the rows of the method from 'pc' on -/
def x_at1 (mi pc : Nat) (rs : List (Nat × x_Row)) : Prop := rs = [] ∨ x_ct 0 (x_tab mi) = true ∧ ∃ pre q r, x_tab mi = pre ++ q :: r ∧ rs = q :: r ∧ q.1 = pc
theorem x_at1_row {mi pc k : Nat} {row : x_Row} {r : List (Nat × x_Row)} (h : x_at1 mi pc ((k, row) :: r)) : k = pc ∧ x_row mi pc = some row ∧ x_at1 mi (pc + row.2.1) r := by
  rcases h with h | ⟨hc, pre, q, r', h1, h2, h3⟩
  · cases h
  cases h2
  have hc0 := hc
  rw [h1] at hc
  obtain ⟨_, i2, i3⟩ := x_ct_app pre 0 _ r hc
  have h3 : k = pc := h3
  subst h3
  refine ⟨rfl, by unfold x_row; rw [h1]; exact i2, ?_⟩
  cases r with
  | nil => exact Or.inl rfl
  | cons q2 r2 =>
    refine Or.inr ⟨hc0, pre ++ [(k, row)], q2, r2, by rw [h1]; simp, rfl, ?_⟩
    rw [x_ct, Bool.and_eq_true, Bool.and_eq_true] at i3
    exact Nat.eq_of_beq_eq_true i3.1.1
noncomputable def x_fi (t : Nat) (l : List (Nat × x_Row)) : List (Nat × x_Row) := List.rec [] (fun q r ih => cond (Nat.beq q.1 t) (q :: r) ih) l
theorem x_fi_aux (mi t : Nat) (hc : x_ct 0 (x_tab mi) = true) : ∀ (l pre : List (Nat × x_Row)), x_tab mi = pre ++ l → x_at1 mi t (x_fi t l)
  | [], _, _ => Or.inl rfl
  | q :: r, pre, h => by
    show x_at1 mi t (cond (Nat.beq q.1 t) (q :: r) (x_fi t r))
    cases hb : Nat.beq q.1 t
    · exact x_fi_aux mi t hc r (pre ++ [q]) (by rw [h]; simp)
    · exact Or.inr ⟨hc, pre, q, r, h, rfl, Nat.eq_of_beq_eq_true hb⟩
theorem x_fi_ok (mi t : Nat) : x_at1 mi t (x_fi t (x_tb mi)) := by
  rcases x_tb_or mi with ⟨hc, h⟩ | h
  · rw [h]; exact x_fi_aux mi t hc (x_tab mi) [] rfl
  · rw [h]; exact Or.inl rfl
noncomputable def x_nx (mi pc len t : Nat) (rt : List (Nat × x_Row)) : List (Nat × x_Row) := cond (Nat.beq t (Nat.add pc len)) rt (x_fi t (x_tb mi))
theorem x_nx_ok {mi pc len t : Nat} {rt : List (Nat × x_Row)} (h : x_at1 mi (pc + len) rt) : x_at1 mi t (x_nx mi pc len t rt) := by
  unfold x_nx
  cases hb : Nat.beq t (Nat.add pc len)
  · exact x_fi_ok mi t
  · have : t = pc + len := Nat.eq_of_beq_eq_true hb
    subst this; exact h
theorem x_at1_0 (mi : Nat) : x_at1 mi 0 (x_tb mi) := by
  rcases x_tb_or mi with ⟨hc, h⟩ | h
  · rw [h]
    cases h : x_tab mi with
    | nil => exact Or.inl rfl
    | cons q r =>
      have hc2 := hc
      rw [h, x_ct, Bool.and_eq_true, Bool.and_eq_true] at hc2
      exact Or.inr ⟨hc, [], q, r, h, rfl, Nat.eq_of_beq_eq_true hc2.1.1⟩
  · rw [h]; exact Or.inl rfl
abbrev x_C : Type := (Nat ⊕ (Nat × Nat)) × x_T Int32 × x_T Int64 × x_T Value
abbrev x_W : Type := Nat × x_T x_C
def x_dp : Nat ⊕ (Nat × Nat) → Nat | .inl _ => 7 | .inr q => Nat.succ (Nat.log2 q.2)
noncomputable def x_cI (c : x_C) (j : Nat) : Int32 := match x_tg (x_dp c.1) c.2.1 j with | some v => v | none => 0
noncomputable def x_cL (c : x_C) (j : Nat) : Int64 := match x_tg (x_dp c.1) c.2.2.1 j with | some v => v | none => 0
noncomputable def x_cR (c : x_C) (j : Nat) : Value := match x_tg (x_dp c.1) c.2.2.2 j with | some v => v | none => .null
noncomputable def x_gc (W : x_W) (k : Nat) : Option x_C := cond (Nat.blt k 256) (x_tg 8 W.2 k) none
/-- the tree is of this world -/
def x_R (W : x_W) (G : x_G) : Prop := G.1.length = W.1 ∧ W.1 ≤ 256 ∧ (∀ k, k < 256 → G.1[k]? = (x_tg 8 W.2 k).map (fun c => c.1)) ∧ ∀ k, k < 256 → ∀ c, x_tg 8 W.2 k = some c → ∀ j, j < 2 ^ x_dp c.1 → G.2.1 k j = x_cI c j ∧ G.2.2.1 k j = x_cL c j ∧ G.2.2.2 k j = x_cR c j
theorem x_gc_R {W : x_W} {G : x_G} {k : Nat} {c : x_C} (hR : x_R W G) (h : x_gc W k = some c) : k < 256 ∧ x_tg 8 W.2 k = some c ∧ G.1[k]? = some c.1 ∧ ∀ j, j < 2 ^ x_dp c.1 → G.2.1 k j = x_cI c j ∧ G.2.2.1 k j = x_cL c j ∧ G.2.2.2 k j = x_cR c j := by
  unfold x_gc at h
  cases hk : Nat.blt k 256
  · rw [hk] at h; cases h
  rw [hk] at h
  simp only [cond] at h
  have hk : k < 256 := Nat.le_of_ble_eq_true hk
  exact ⟨hk, h, by rw [hR.2.2.1 k hk, h]; rfl, hR.2.2.2 k hk c h⟩
noncomputable def x_fc (c : x_C) (j : Nat) : FieldType → Value
  | .long => .long (x_cL c j)
  | .object _ => x_nr (x_cR c j)
  | .array _ => x_nr (x_cR c j)
  | _ => .int (x_cI c j)
theorem x_fc_R {W : x_W} {G : x_G} {k j : Nat} {c : x_C} {ty : FieldType} (hR : x_R W G) (h : x_gc W k = some c) (hj : j < 2 ^ x_dp c.1) : x_fv G k j ty = x_fc c j ty := by
  obtain ⟨_, _, _, h4⟩ := x_gc_R hR h
  obtain ⟨a1, a2, a3⟩ := h4 j hj
  cases ty <;> simp only [x_fv, x_fc, a1, a2, a3]
noncomputable def x_pc {β : Type} (W : x_W) (k : Nat) (c : x_C) (j : Nat) (ty : FieldType) (v : Value) (K : x_W → β) : β := match ty with
  | .long => x_tp (x_dp c.1) c.2.2.1 j (x_toL v) fun t => x_tp 8 W.2 k (c.1, c.2.1, t, c.2.2.2) fun u => K (W.1, u)
  | .object _ => x_tp (x_dp c.1) c.2.2.2 j v fun t => x_tp 8 W.2 k (c.1, c.2.1, c.2.2.1, t) fun u => K (W.1, u)
  | .array _ => x_tp (x_dp c.1) c.2.2.2 j v fun t => x_tp 8 W.2 k (c.1, c.2.1, c.2.2.1, t) fun u => K (W.1, u)
  | _ => x_tp (x_dp c.1) c.2.1 j (x_toI v) fun t => x_tp 8 W.2 k (c.1, t, c.2.2.1, c.2.2.2) fun u => K (W.1, u)
theorem x_R_put {W : x_W} {G G' : x_G} {k : Nat} {c c' : x_C} (hR : x_R W G) (h : x_gc W k = some c) (hc : c'.1 = c.1) (hs : G'.1 = G.1) (ho : ∀ a, a ≠ k → G'.2.1 a = G.2.1 a ∧ G'.2.2.1 a = G.2.2.1 a ∧ G'.2.2.2 a = G.2.2.2 a) (hk : ∀ j, j < 2 ^ x_dp c.1 → G'.2.1 k j = x_cI c' j ∧ G'.2.2.1 k j = x_cL c' j ∧ G'.2.2.2 k j = x_cR c' j) : x_R (W.1, x_ts 8 W.2 k c') G' := by
  obtain ⟨hk1, hk2, hk3, hk4⟩ := x_gc_R hR h
  refine ⟨by rw [hs]; exact hR.1, hR.2.1, ?_, ?_⟩
  · intro a ha
    show G'.1[a]? = (x_tg 8 (x_ts 8 W.2 k c') a).map _
    rw [x_tg_ts 8 _ _ _ _ hk1 ha, hs]
    by_cases hak : a = k
    · subst hak; rw [if_pos rfl, hk3, ← hc]; rfl
    · rw [if_neg hak]; exact hR.2.2.1 a ha
  · intro a ha d hd j hj
    have hd : x_tg 8 (x_ts 8 W.2 k c') a = some d := hd
    rw [x_tg_ts 8 _ _ _ _ hk1 ha] at hd
    by_cases hak : a = k
    · subst hak
      rw [if_pos rfl] at hd
      cases hd
      exact hk j (by rw [← hc]; exact hj)
    · rw [if_neg hak] at hd
      obtain ⟨o1, o2, o3⟩ := ho a hak
      rw [o1, o2, o3]
      exact hR.2.2.2 a ha d hd j hj
theorem x_pc_R {W : x_W} {G : x_G} {k j : Nat} {c : x_C} (ty : FieldType) (v : Value) (hR : x_R W G) (h : x_gc W k = some c) (hj : j < 2 ^ x_dp c.1) : ∃ W', x_R W' (x_put G k j ty v) ∧ ∀ (β : Type) (K : x_W → β), x_pc W k c j ty v K = K W' := by
  obtain ⟨hk1, hk2, hk3, hk4⟩ := x_gc_R hR h
  have I : ∀ x : Int32, x_R (W.1, x_ts 8 W.2 k (c.1, x_ts (x_dp c.1) c.2.1 j x, c.2.2.1, c.2.2.2)) (G.1, x_up2 G.2.1 k j x, G.2.2.1, G.2.2.2) := by
    intro x
    refine x_R_put hR h rfl rfl (fun a ha => ⟨x_up2_ne ha, rfl, rfl⟩) ?_
    intro i hi
    refine ⟨?_, (hk4 i hi).2⟩
    show x_up2 G.2.1 k j x k i = x_cI _ i
    unfold x_cI
    dsimp only
    rw [x_tg_ts _ _ _ _ _ hj hi]
    by_cases hij : i = j
    · subst hij; rw [if_pos rfl, x_up2_at]
    · rw [if_neg hij, x_up2_off (Or.inr hij)]; exact (hk4 i hi).1
  have L : ∀ x : Int64, x_R (W.1, x_ts 8 W.2 k (c.1, c.2.1, x_ts (x_dp c.1) c.2.2.1 j x, c.2.2.2)) (G.1, G.2.1, x_up2 G.2.2.1 k j x, G.2.2.2) := by
    intro x
    refine x_R_put hR h rfl rfl (fun a ha => ⟨rfl, x_up2_ne ha, rfl⟩) ?_
    intro i hi
    refine ⟨(hk4 i hi).1, ?_, (hk4 i hi).2.2⟩
    show x_up2 G.2.2.1 k j x k i = x_cL _ i
    unfold x_cL
    dsimp only
    rw [x_tg_ts _ _ _ _ _ hj hi]
    by_cases hij : i = j
    · subst hij; rw [if_pos rfl, x_up2_at]
    · rw [if_neg hij, x_up2_off (Or.inr hij)]; exact (hk4 i hi).2.1
  have V : ∀ x : Value, x_R (W.1, x_ts 8 W.2 k (c.1, c.2.1, c.2.2.1, x_ts (x_dp c.1) c.2.2.2 j x)) (G.1, G.2.1, G.2.2.1, x_up2 G.2.2.2 k j x) := by
    intro x
    refine x_R_put hR h rfl rfl (fun a ha => ⟨rfl, rfl, x_up2_ne ha⟩) ?_
    intro i hi
    refine ⟨(hk4 i hi).1, (hk4 i hi).2.1, ?_⟩
    show x_up2 G.2.2.2 k j x k i = x_cR _ i
    unfold x_cR
    dsimp only
    rw [x_tg_ts _ _ _ _ _ hj hi]
    by_cases hij : i = j
    · subst hij; rw [if_pos rfl, x_up2_at]
    · rw [if_neg hij, x_up2_off (Or.inr hij)]; exact (hk4 i hi).2.2
  cases ty
  case long => exact ⟨_, L (x_toL v), fun β K => by unfold x_pc; dsimp only; rw [x_tp_eq, x_tp_eq]⟩
  case object => exact ⟨_, V v, fun β K => by unfold x_pc; dsimp only; rw [x_tp_eq, x_tp_eq]⟩
  case array => exact ⟨_, V v, fun β K => by unfold x_pc; dsimp only; rw [x_tp_eq, x_tp_eq]⟩
  all_goals exact ⟨_, I (x_toI v), fun β K => by unfold x_pc; dsimp only; rw [x_tp_eq, x_tp_eq]⟩
/-- a new cell -/
noncomputable def x_nc {β : Type} (W : x_W) (sh : Nat ⊕ (Nat × Nat)) (K : x_W → β) (no : β) : β := cond (Nat.blt W.1 256) (x_tp 8 W.2 W.1 (sh, x_Te, x_Te, x_Te) fun u => K (Nat.succ W.1, u)) no
theorem x_nc_R {W : x_W} {G : x_G} (sh : Nat ⊕ (Nat × Nat)) (hR : x_R W G) : Nat.blt W.1 256 = true → x_R (Nat.succ W.1, x_ts 8 W.2 W.1 (sh, x_Te, x_Te, x_Te)) (x_new G sh) := by
  intro h
  have h : W.1 < 256 := Nat.le_of_ble_eq_true h
  refine ⟨by simp [x_new, hR.1], h, ?_, ?_⟩
  · intro a ha
    show (G.1 ++ [sh])[a]? = (x_tg 8 (x_ts 8 W.2 W.1 _) a).map _
    rw [x_tg_ts 8 _ _ _ _ h ha]
    by_cases hak : a = W.1
    · subst hak; rw [if_pos rfl, ← hR.1]; simp
    · rw [if_neg hak, ← hR.2.2.1 a ha, List.getElem?_append]
      split
      · rfl
      · next hn => 
        rw [hR.1] at hn ⊢
        rw [List.getElem?_eq_none (by simp; omega), List.getElem?_eq_none (by rw [hR.1]; omega)]
  · intro a ha d hd j hj
    have hd : x_tg 8 (x_ts 8 W.2 W.1 (sh, x_Te, x_Te, x_Te)) a = some d := hd
    rw [x_tg_ts 8 _ _ _ _ h ha] at hd
    by_cases hak : a = W.1
    · subst hak
      rw [if_pos rfl] at hd
      cases hd
      refine ⟨?_, ?_, ?_⟩
      · show x_clr G.2.1 G.1.length 0 W.1 j = x_cI _ j
        unfold x_cI x_clr; dsimp only; rw [x_tg_e, hR.1, if_pos rfl]
      · show x_clr G.2.2.1 G.1.length 0 W.1 j = x_cL _ j
        unfold x_cL x_clr; dsimp only; rw [x_tg_e, hR.1, if_pos rfl]
      · show x_clr G.2.2.2 G.1.length .null W.1 j = x_cR _ j
        unfold x_cR x_clr; dsimp only; rw [x_tg_e, hR.1, if_pos rfl]
    · rw [if_neg hak] at hd
      have hne : a ≠ G.1.length := by rw [hR.1]; exact hak
      show x_clr G.2.1 G.1.length 0 a j = _ ∧ x_clr G.2.2.1 G.1.length 0 a j = _ ∧ x_clr G.2.2.2 G.1.length .null a j = _
      rw [x_clr_ne hne, x_clr_ne hne, x_clr_ne hne]
      exact hR.2.2.2 a ha d hd j hj
/-- comparing by natural numbers -/
def x_n32 (x : Int32) : Nat := x.toUInt32.toBitVec.toNat
def x_b32 (x : Int32) : Nat := Nat.mod (Nat.add (x_n32 x) 2147483648) 4294967296
theorem x_toInt32 (x : Int32) : x.toInt = (x_b32 x : Int) - 2147483648 := by
  show x.toUInt32.toBitVec.toInt = _
  have hlt : x.toUInt32.toBitVec.toNat < 4294967296 := x.toUInt32.toBitVec.isLt
  rw [BitVec.toInt_eq_toNat_cond]
  have hb : x_b32 x = (x.toUInt32.toBitVec.toNat + 2147483648) % 4294967296 := rfl
  rw [hb]
  split <;> omega
def x_ltb (x y : Int32) : Bool := Nat.blt (x_b32 x) (x_b32 y)
def x_leb (x y : Int32) : Bool := Nat.ble (x_b32 x) (x_b32 y)
def x_eqb (x y : Int32) : Bool := Nat.beq (x_n32 x) (x_n32 y)
theorem x_ltb_iff {x y : Int32} : x_ltb x y = true ↔ x < y := by
  rw [Int32.lt_iff_toInt_lt, x_toInt32, x_toInt32]
  unfold x_ltb
  constructor
  · intro h; have : x_b32 x < x_b32 y := Nat.le_of_ble_eq_true h; omega
  · intro h; exact Nat.ble_eq_true_of_le (by show x_b32 x < x_b32 y; omega)
theorem x_leb_iff {x y : Int32} : x_leb x y = true ↔ x ≤ y := by
  rw [Int32.le_iff_toInt_le, x_toInt32, x_toInt32]
  unfold x_leb
  constructor
  · intro h; have : x_b32 x ≤ x_b32 y := Nat.le_of_ble_eq_true h; omega
  · intro h; exact Nat.ble_eq_true_of_le (by omega)
theorem x_eqb_iff {x y : Int32} : x_eqb x y = true ↔ x = y := by
  unfold x_eqb x_n32
  constructor
  · intro h
    have h := Nat.eq_of_beq_eq_true h
    exact Int32.toBitVec_inj.mp (BitVec.eq_of_toNat_eq h)
  · intro h; subst h; exact Nat.beq_refl _
theorem x_cond_if {α : Type} {b : Bool} {P : Prop} [Decidable P] (h : b = true ↔ P) (x y : α) : cond b x y = if P then x else y := by
  cases b
  · rw [if_neg (fun q => by have := h.mpr q; cases this)]; rfl
  · rw [if_pos (h.mp rfl)]; rfl
/-- a good index -/
def x_ixb (i : Int32) (n : Nat) : Bool := cond (Nat.blt (x_n32 i) n) (Nat.blt (x_n32 i) 2147483648) false
theorem x_ixb_ok {i : Int32} {n : Nat} (h : x_ixb i n = true) : ¬ (i < 0 ∨ n ≤ i.toNatClampNeg) ∧ i.toNatClampNeg = x_n32 i := by
  unfold x_ixb at h
  cases h1 : Nat.blt (x_n32 i) n
  · rw [h1] at h; cases h
  rw [h1] at h
  have h1 : x_n32 i < n := Nat.le_of_ble_eq_true h1
  have h2 : x_n32 i < 2147483648 := Nat.le_of_ble_eq_true h
  have hb : x_b32 i = x_n32 i + 2147483648 := by
    show (x_n32 i + 2147483648) % 4294967296 = _
    omega
  have hi := x_toInt32 i
  have hc : i.toNatClampNeg = x_n32 i := by
    show i.toInt.toNat = _
    omega
  refine ⟨?_, hc⟩
  rw [hc, Int32.lt_iff_toInt_lt]
  intro q
  rcases q with q | q
  · have : (0 : Int32).toInt = 0 := rfl
    omega
  · omega
/-! ===== the quick machine's heap instructions ===== -/
def x_xa0 (i : Nat) : Option (FieldType × Nat × (Nat → Value)) := if i = 30 then none else x_xar (0, fun _ => 0) i
theorem x_xa0_ok {X : x_Ext} {i : Nat} {q : FieldType × Nat × (Nat → Value)} (h : x_xa0 i = some q) : x_xar X i = some q := by
  unfold x_xa0 at h
  split at h
  · cases h
  · next hi =>
    rw [← h]
    unfold x_xar
    rw [if_neg hi, if_neg hi]
def x_isO (c : Nat ⊕ (Nat × Nat)) (a b : Nat) : Bool := match c with | .inl a' => cond (Nat.beq a' a) (cond (Nat.blt b 128) (Nat.blt b (x_fty a).length) false) false | .inr _ => false
theorem x_isO_ok {c : Nat ⊕ (Nat × Nat)} {a b : Nat} (h : x_isO c a b = true) : c = .inl a ∧ b < 128 ∧ b < (x_fty a).length := by
  unfold x_isO at h
  split at h
  · next a' =>
    cases h1 : Nat.beq a' a
    · rw [h1] at h; cases h
    rw [h1] at h
    cases h2 : Nat.blt b 128
    · rw [h2] at h; cases h
    rw [h2] at h
    exact ⟨by rw [Nat.eq_of_beq_eq_true h1], Nat.le_of_ble_eq_true h2, Nat.le_of_ble_eq_true h⟩
  · cases h
noncomputable def x_fld (p : Nat → Bool) (W : x_W) (k : Nat) (i : Int32) : Option Value := match x_gc W k with
  | some c => match c.1 with
    | .inr (t, n) => cond (p t) (cond (x_ixb i n) (x_sqN (x_n32 i) fun m => some (x_fc c m (x_ety t))) none) none
    | _ => none
  | none => none
def x_fdX (ok : FieldType → Bool) (e : Nat) (i : Int32) : Option Value := match x_xa0 e with
  | some (ty, n, f) => if ok ty = true ∧ ¬ (i < 0 ∨ n ≤ i.toNatClampNeg) then some (f i.toNatClampNeg) else none
  | none => none
noncomputable def x_fst (W : x_W) (k : Nat) (i : Int32) (t : Nat) (v : Value) (r : List Value) : Option (List Value × x_W) := match x_gc W k with
  | some c => match c.1 with
    | .inr (t', n) => cond (Nat.beq t' t) (cond (x_ixb i n) (x_sqN (x_n32 i) fun m => x_pc W k c m (x_ety t) v fun W' => some (r, W')) none) none
    | _ => none
  | none => none
noncomputable def x_faty (W : x_W) (k : Nat) : Nat := match x_gc W k with | some c => (match c.1 with | .inr (t, _) => t | _ => 99) | none => 99
noncomputable def x_fh (a b : Nat) (z : Int) (ins : Instr) (st : List Value) (W : x_W) : Option (List Value × x_W) := match ins, st with
  | .ldc _, st => if a = 0 then some (.int (Int32.ofInt z) :: st, W) else some (.retAddr 28 :: st, W)
  | .ldc_w _, st => some (.int (Int32.ofInt z) :: st, W)
  | .ldc2_w _, st => some (.long (Int64.ofInt z) :: st, W)
  | .getstatic _, st => match x_sts[a]? with | some s => some (s.2.2.2.1 :: st, W) | none => none
  | .getfield _, .ref k :: r => match x_gc W k with
    | some c => cond (x_isO c.1 a b) (some (x_fc c b ((x_fty a).getD b .int) :: r, W)) none
    | none => none
  | .getfield _, .retAddr i :: r => if a = 200 then (match x_xf b i with | some v => some (v :: r, W) | none => none) else none
  | .putfield _, v :: .ref k :: r => match x_gc W k with
    | some c => cond (x_isO c.1 a b) (cond (x_fit ((x_fty a).getD b .int) v) (x_pc W k c b ((x_fty a).getD b .int) v fun W' => some (r, W')) none) none
    | none => none
  | .arraylength, .ref k :: r => match x_gc W k with
    | some c => (match c.1 with | .inr (t, n) => if t < 7 then some (.int (Int32.ofNat n) :: r, W) else none | _ => none)
    | none => none
  | .arraylength, .retAddr i :: r => match x_xa0 i with | some q => some (.int (Int32.ofNat q.2.1) :: r, W) | none => none
  | .iaload, .int i :: .ref k :: r => match x_fld (fun t => t == 0) W k i with | some v => some (v :: r, W) | none => none
  | .laload, .int i :: .ref k :: r => match x_fld (fun t => t == 1) W k i with | some v => some (v :: r, W) | none => none
  | .baload, .int i :: .ref k :: r => match x_fld (fun t => t == 2 || t == 3) W k i with | some v => some (v :: r, W) | none => none
  | .aaload, .int i :: .ref k :: r => match x_fld (fun t => decide (4 ≤ t) && decide (t < 7)) W k i with | some v => some (v :: r, W) | none => none
  | .iaload, .int i :: .retAddr e :: r => match x_fdX (fun t => t == .int) e i with | some v => some (v :: r, W) | none => none
  | .baload, .int i :: .retAddr e :: r => match x_fdX (fun t => t == .byte) e i with | some v => some (v :: r, W) | none => none
  | .aaload, .int i :: .retAddr e :: r => match x_fdX x_isObj e i with | some v => some (v :: r, W) | none => none
  | .iastore, .int x :: .int i :: .ref k :: r => x_fst W k i 0 (.int x) r
  | .lastore, .long x :: .int i :: .ref k :: r => x_fst W k i 1 (.long x) r
  | .bastore, .int x :: .int i :: .ref k :: r => if x_faty W k = 2 then x_fst W k i 2 (narrow .byte (.int x)) r else if x_faty W k = 3 then x_fst W k i 3 (narrow .boolean (.int x)) r else none
  | .aastore, .null :: .int i :: .ref k :: r => if 4 ≤ x_faty W k ∧ x_faty W k < 7 then x_fst W k i (x_faty W k) .null r else none
  | .aastore, .ref k2 :: .int i :: .ref k :: r => match x_gc W k2 with
    | some c2 => if 4 ≤ x_faty W k ∧ x_faty W k < 7 ∧ c2.1 = .inl (x_eci (x_faty W k)) then x_fst W k i (x_faty W k) (.ref k2) r else none
    | none => none
  | .new _, st => if a < 12 then x_nc W (.inl a) (fun W' => some (.ref W.1 :: st, W')) none else none
  | .newarray at_, .int n :: r => match x_atn at_ with | some t => if ¬ n < 0 ∧ n.toNatClampNeg ≤ 100000 then x_sqN n.toNatClampNeg fun m => x_nc W (.inr (t, m)) (fun W' => some (.ref W.1 :: r, W')) none else none | none => none
  | .anewarray _, .int n :: r => if 4 ≤ a ∧ a < 7 ∧ ¬ n < 0 ∧ n.toNatClampNeg ≤ 100000 then x_sqN n.toNatClampNeg fun m => x_nc W (.inr (a, m)) (fun W' => some (.ref W.1 :: r, W')) none else none
  | _, _ => none
theorem x_dp_lt {t n i : Nat} (h : i < n) : i < 2 ^ x_dp (.inr (t, n)) := by
  show i < 2 ^ (Nat.log2 n + 1)
  exact Nat.lt_trans h Nat.lt_log2_self
theorem x_fld_ok {p : Nat → Bool} {W : x_W} {G : x_G} {k : Nat} {i : Int32} {v : Value} (hR : x_R W G) (h : x_fld p W k i = some v) : x_ldA p G k i = some v := by
  unfold x_fld at h
  split at h
  · next c hc =>
    split at h
    · next t n hs =>
      cases hp : p t
      · rw [hp] at h; cases h
      rw [hp] at h
      cases hx : x_ixb i n
      · rw [hx] at h; cases h
      rw [hx] at h
      simp only [cond] at h
      rw [x_sqN_eq] at h
      obtain ⟨hi, hm⟩ := x_ixb_ok hx
      rw [← hm] at h
      cases h
      unfold x_ldA
      rw [(x_gc_R hR hc).2.2.1, hs]
      dsimp only
      rw [if_pos ⟨hp, hi⟩, x_fc_R hR hc (by rw [hs]; exact x_dp_lt (by omega))]
    · cases h
  · cases h
theorem x_fdX_ok {X : x_Ext} {ok : FieldType → Bool} {e : Nat} {i : Int32} {v : Value} (h : x_fdX ok e i = some v) : x_ldX ok X e i = some v := by
  unfold x_fdX at h
  unfold x_ldX
  split at h
  · next he => rw [x_xa0_ok he]; exact h
  · cases h
theorem x_fst_ok {W W' : x_W} {G : x_G} {k t : Nat} {i : Int32} {v : Value} {r r' : List Value} (hR : x_R W G) (h : x_fst W k i t v r = some (r', W')) : ∃ G', x_stA G k i t v = some G' ∧ r' = r ∧ x_R W' G' := by
  unfold x_fst at h
  split at h
  · next c hc =>
    split at h
    · next t' n hs =>
      cases hp : Nat.beq t' t
      · rw [hp] at h; cases h
      rw [hp] at h
      cases hx : x_ixb i n
      · rw [hx] at h; cases h
      rw [hx] at h
      simp only [cond] at h
      have hp : t' = t := Nat.eq_of_beq_eq_true hp
      obtain ⟨hi, hm⟩ := x_ixb_ok hx
      · rw [x_sqN_eq, ← hm] at h
        obtain ⟨W2, hR2, hK⟩ := x_pc_R (j := i.toNatClampNeg) (x_ety t) v hR hc (by rw [hs]; exact x_dp_lt (by omega))
        rw [hK] at h
        cases h
        refine ⟨_, ?_, rfl, hR2⟩
        unfold x_stA
        rw [(x_gc_R hR hc).2.2.1, hs]
        dsimp only
        rw [if_pos ⟨hp, hi⟩]
    · cases h
  · cases h
theorem x_faty_ok {W : x_W} {G : x_G} {k : Nat} (hR : x_R W G) (h : x_faty W k < 7) : x_aty G k = x_faty W k := by
  unfold x_faty at h ⊢
  cases hc : x_gc W k with
  | none => rw [hc] at h; exact absurd h (by decide)
  | some c =>
    unfold x_aty
    rw [(x_gc_R hR hc).2.2.1]
    dsimp only
    cases hs : c.1 <;> rfl
theorem x_nc_ok {W W' : x_W} {G : x_G} {sh : Nat ⊕ (Nat × Nat)} {st st' : List Value} (hR : x_R W G) (h : x_nc W sh (fun W' => some (st, W')) none = some (st', W')) : st' = st ∧ x_R W' (x_new G sh) := by
  unfold x_nc at h
  cases hb : Nat.blt W.1 256
  · rw [hb] at h; cases h
  rw [hb] at h
  simp only [cond] at h
  rw [x_tp_eq] at h
  cases h
  exact ⟨rfl, x_nc_R sh hR hb⟩
theorem x_fh_ok {X : x_Ext} {a b : Nat} {z : Int} {ins : Instr} {st st' : List Value} {W W' : x_W} {G : x_G} (hR : x_R W G) (h : x_fh a b z ins st W = some (st', W')) : ∃ G', x_heap X a b z ins st G = some (st', G') ∧ x_R W' G' := by
  unfold x_fh at h
  split at h
  · unfold x_heap; dsimp only; split at h
    · next ha => cases h; exact ⟨G, by rw [if_pos ha], hR⟩
    · next ha => cases h; exact ⟨G, by rw [if_neg ha], hR⟩
  · cases h; exact ⟨G, rfl, hR⟩
  · cases h; exact ⟨G, rfl, hR⟩
  · unfold x_heap; dsimp only; split at h
    · next hs => cases h; exact ⟨G, by rw [hs], hR⟩
    · cases h
  · unfold x_heap; dsimp only; split at h
    · next c hc =>
      cases hb0 : x_isO c.1 a b
      · rw [hb0] at h; cases h
      rw [hb0] at h
      have hq := x_isO_ok hb0
      · cases h
        exact ⟨G, by rw [if_pos ⟨by rw [(x_gc_R hR hc).2.2.1, hq.1], hq.2.2⟩, x_fc_R hR hc (by rw [hq.1]; exact hq.2.1)], hR⟩
    · cases h
  · unfold x_heap; dsimp only; split at h
    · next ha =>
      split at h
      · next hv => cases h; exact ⟨G, by rw [if_pos ha, hv], hR⟩
      · cases h
    · cases h
  · unfold x_heap; dsimp only; split at h
    · next c hc =>
      cases hb0 : x_isO c.1 a b
      · rw [hb0] at h; cases h
      rw [hb0] at h
      have hq := x_isO_ok hb0
      simp only [cond] at h
      split at h
      · next hft =>
        obtain ⟨W2, hR2, hK⟩ := x_pc_R (j := b) ((x_fty a).getD b .int) _ hR hc (by rw [hq.1]; exact hq.2.1)
        rw [hK] at h
        cases h
        exact ⟨_, by rw [if_pos ⟨by rw [(x_gc_R hR hc).2.2.1, hq.1], hq.2.2, hft⟩], hR2⟩
      · cases h
    · cases h
  · unfold x_heap; dsimp only; split at h
    · next c hc =>
      split at h
      · next t n hs =>
        split at h
        · next ht => cases h; exact ⟨G, by rw [(x_gc_R hR hc).2.2.1, hs]; dsimp only; rw [if_pos ht], hR⟩
        · cases h
      · cases h
    · cases h
  · unfold x_heap; dsimp only; split at h
    · next hq => cases h; exact ⟨G, by rw [x_xa0_ok hq], hR⟩
    · cases h
  iterate 4
    unfold x_heap; dsimp only; split at h
    · next hv => cases h; exact ⟨G, by rw [x_fld_ok hR hv], hR⟩
    · cases h
  iterate 3
    unfold x_heap; dsimp only; split at h
    · next hv => cases h; exact ⟨G, by rw [x_fdX_ok hv], hR⟩
    · cases h
  · obtain ⟨G', h1, h2, h3⟩ := x_fst_ok hR h; subst h2; exact ⟨G', by unfold x_heap; dsimp only; rw [h1], h3⟩
  · obtain ⟨G', h1, h2, h3⟩ := x_fst_ok hR h; subst h2; exact ⟨G', by unfold x_heap; dsimp only; rw [h1], h3⟩
  · split at h
    · next ha =>
      obtain ⟨G', h1, h2, h3⟩ := x_fst_ok hR h; subst h2
      exact ⟨G', by unfold x_heap; dsimp only; rw [x_faty_ok hR (by rw [ha]; decide), if_pos ha, h1], h3⟩
    · next ha =>
      split at h
      · next h3' =>
        obtain ⟨G', h1, h2, h3⟩ := x_fst_ok hR h; subst h2
        exact ⟨G', by unfold x_heap; dsimp only; rw [x_faty_ok hR (by rw [h3']; decide), if_neg ha, h1], h3⟩
      · cases h
  · split at h
    · next ha => obtain ⟨G', h1, h2, h3⟩ := x_fst_ok hR h; subst h2; exact ⟨G', by unfold x_heap; dsimp only; rw [x_faty_ok hR ha.2, if_pos ha, h1], h3⟩
    · cases h
  · split at h
    · next c2 hc2 =>
      split at h
      · next ha => obtain ⟨G', h1, h2, h3⟩ := x_fst_ok hR h; subst h2; exact ⟨G', by unfold x_heap; dsimp only; rw [x_faty_ok hR ha.2.1, if_pos ⟨ha.1, ha.2.1, by rw [(x_gc_R hR hc2).2.2.1, ha.2.2]⟩, h1], h3⟩
      · cases h
    · cases h
  · split at h
    · next ha => obtain ⟨h1, h2⟩ := x_nc_ok hR h; subst h1; exact ⟨_, by unfold x_heap; dsimp only; rw [if_pos ha, hR.1], h2⟩
    · cases h
  · split at h
    · next ht =>
      split at h
      · next hn => rw [x_sqN_eq] at h; obtain ⟨h1, h2⟩ := x_nc_ok hR h; subst h1; exact ⟨_, by unfold x_heap; dsimp only; rw [ht]; dsimp only; rw [if_pos hn, hR.1], h2⟩
      · cases h
    · cases h
  · split at h
    · next hn => rw [x_sqN_eq] at h; obtain ⟨h1, h2⟩ := x_nc_ok hR h; subst h1; exact ⟨_, by unfold x_heap; dsimp only; rw [if_pos hn, hR.1], h2⟩
    · cases h
  · cases h
/-- each instruction's work, by the instruction alone -/
def x_op0 : Instr → Option (List Value → Option (List Value))
  | .aconst_null => some (fun st => some (.null :: st))
  | .iconst n => some (fun st => some (.int (Int32.ofInt n) :: st))
  | .bipush n => some (fun st => some (.int (Int8.ofInt n).toInt32 :: st))
  | .sipush n => some (fun st => some (.int (Int16.ofInt n).toInt32 :: st))
  | .lconst n => some (fun st => some (.long (Int64.ofNat (n : Nat)) :: st))
  | .iadd => some (fun st => match st with | .int y :: .int x :: r => some (.int (x + y) :: r) | _ => none)
  | .isub => some (fun st => match st with | .int y :: .int x :: r => some (.int (x - y) :: r) | _ => none)
  | .imul => some (fun st => match st with | .int y :: .int x :: r => some (.int (x * y) :: r) | _ => none)
  | .iand => some (fun st => match st with | .int y :: .int x :: r => some (.int (x &&& y) :: r) | _ => none)
  | .ior => some (fun st => match st with | .int y :: .int x :: r => some (.int (x ||| y) :: r) | _ => none)
  | .ixor => some (fun st => match st with | .int y :: .int x :: r => some (.int (x ^^^ y) :: r) | _ => none)
  | .idiv => some (fun st => match st with | .int y :: .int x :: r => if y = 0 then none else some (.int (x / y) :: r) | _ => none)
  | .irem => some (fun st => match st with | .int y :: .int x :: r => if y = 0 then none else some (.int (x - x / y * y) :: r) | _ => none)
  | .ishl => some (fun st => match st with | .int y :: .int x :: r => some (.int (x <<< (y &&& 31)) :: r) | _ => none)
  | .ishr => some (fun st => match st with | .int y :: .int x :: r => some (.int (x >>> (y &&& 31)) :: r) | _ => none)
  | .iushr => some (fun st => match st with | .int y :: .int x :: r => some (.int (x.toUInt32 >>> (y.toUInt32 &&& Int32.toUInt32 31)).toInt32 :: r) | _ => none)
  | .ladd => some (fun st => match st with | .long y :: .long x :: r => some (.long (x + y) :: r) | _ => none)
  | .lsub => some (fun st => match st with | .long y :: .long x :: r => some (.long (x - y) :: r) | _ => none)
  | .lmul => some (fun st => match st with | .long y :: .long x :: r => some (.long (x * y) :: r) | _ => none)
  | .land => some (fun st => match st with | .long y :: .long x :: r => some (.long (x &&& y) :: r) | _ => none)
  | .lor => some (fun st => match st with | .long y :: .long x :: r => some (.long (x ||| y) :: r) | _ => none)
  | .lxor => some (fun st => match st with | .long y :: .long x :: r => some (.long (x ^^^ y) :: r) | _ => none)
  | .ldiv => some (fun st => match st with | .long y :: .long x :: r => if y = 0 then none else some (.long (x / y) :: r) | _ => none)
  | .lrem => some (fun st => match st with | .long y :: .long x :: r => if y = 0 then none else some (.long (x - x / y * y) :: r) | _ => none)
  | .lshl => some (fun st => match st with | .int y :: .long x :: r => some (.long (x <<< (y.toInt64 &&& 63)) :: r) | _ => none)
  | .lshr => some (fun st => match st with | .int y :: .long x :: r => some (.long (x >>> (y.toInt64 &&& 63)) :: r) | _ => none)
  | .lushr => some (fun st => match st with | .int y :: .long x :: r => some (.long (x.toUInt64 >>> (y.toInt64.toUInt64 &&& Int64.toUInt64 63)).toInt64 :: r) | _ => none)
  | .lcmp => some (fun st => match st with | .long y :: .long x :: r => some (.int (lg_cmp x y) :: r) | _ => none)
  | .i2l => some (fun st => match st with | .int x :: r => some (.long x.toInt64 :: r) | _ => none)
  | .l2i => some (fun st => match st with | .long x :: r => some (.int x.toInt32 :: r) | _ => none)
  | .i2b => some (fun st => match st with | .int x :: r => some (.int x.toInt8.toInt32 :: r) | _ => none)
  | .i2s => some (fun st => match st with | .int x :: r => some (.int x.toInt16.toInt32 :: r) | _ => none)
  | .i2c => some (fun st => match st with | .int x :: r => some (.int (x.toUInt32 % 65536).toInt32 :: r) | _ => none)
  | .dup => some (fun st => match st with | v :: r => if v.category = 1 then some (v :: v :: r) else none | _ => none)
  | .pop => some (fun st => match st with | v :: r => if v.category = 1 then some r else none | _ => none)
  | .dup_x1 => some (fun st => match st with | v :: w :: r => if v.category = 1 ∧ w.category = 1 then some (v :: w :: v :: r) else none | _ => none)
  | .dup2 => some (fun st => match st with | v :: w :: r => if v.category = 1 ∧ w.category = 1 then some (v :: w :: v :: w :: r) else none | _ => none)
  | _ => none
theorem x_op0_ok {ins : Instr} {f : List Value → Option (List Value)} (h : x_op0 ins = some f) (st : List Value) : f st = x_alu ins st := by
  unfold x_op0 at h
  split at h
  all_goals first
    | (cases h; done)
    | (cases h; rcases st with _ | ⟨v, _ | ⟨w, r⟩⟩ <;> (try cases v) <;> (try cases w) <;> rfl)
noncomputable def x_gt (lo : x_Lo) (i : Nat) : Option Value := List.rec none (fun q _ ih => cond (Nat.beq q.1 i) (some q.2) ih) lo
theorem x_gt_eq : ∀ (lo : x_Lo) (i : Nat), x_gt lo i = x_get lo i
  | [], _ => rfl
  | (j, v) :: r, i => by
    show cond (Nat.beq j i) (some v) (x_gt r i) = _
    unfold x_get
    rw [x_gt_eq r i]
    exact x_cond_if ⟨Nat.eq_of_beq_eq_true, fun h => by subst h; exact Nat.beq_refl _⟩ _ _
noncomputable def x_c2 (i : Nat) (q : Nat × Value) : Bool := cond (Nat.beq (Nat.succ q.1) i) (Nat.beq q.2.category 2) false
noncomputable def x_ft {β : Type} (i : Nat) (lo : x_Lo) (k : x_Lo → β) : β := List.rec (motive := fun _ => (x_Lo → β) → β) (fun k => k []) (fun q _ ih k => cond (Nat.beq q.1 i) (ih k) (cond (x_c2 i q) (ih k) (ih fun t => k (q :: t)))) lo k
theorem x_beq_b (a b : Nat) : Nat.beq a b = (a == b) := by
  cases h : Nat.beq a b
  · have := Nat.ne_of_beq_eq_false h; simp [this]
  · have := Nat.eq_of_beq_eq_true h; simp [this]
theorem x_ft_eq {β : Type} (i : Nat) : ∀ (lo : x_Lo) (k : x_Lo → β), x_ft i lo k = k (lo.filter (fun q => !(q.1 == i) && !(q.1 + 1 == i && q.2.category == 2)))
  | [], _ => rfl
  | q :: r, k => by
    show cond (Nat.beq q.1 i) (x_ft i r k) (cond (x_c2 i q) (x_ft i r k) (x_ft i r fun t => k (q :: t))) = _
    rw [x_ft_eq i r k, x_ft_eq i r (fun t => k (q :: t)), List.filter_cons]
    have h2 : x_c2 i q = (q.1 + 1 == i && q.2.category == 2) := by
      unfold x_c2
      rw [x_beq_b, x_beq_b]
      cases (q.1.succ == i) <;> rfl
    rw [h2, x_beq_b]
    cases (q.1 == i) <;> cases (q.1 + 1 == i && q.2.category == 2) <;> rfl
noncomputable def x_ft2 {β : Type} (i : Nat) (lo : x_Lo) (k : x_Lo → β) : β := List.rec (motive := fun _ => (x_Lo → β) → β) (fun k => k []) (fun q _ ih k => cond (Nat.beq q.1 i) (ih k) (cond (Nat.beq q.1 (Nat.succ i)) (ih k) (cond (x_c2 i q) (ih k) (ih fun t => k (q :: t))))) lo k
theorem x_ft2_eq {β : Type} (i : Nat) : ∀ (lo : x_Lo) (k : x_Lo → β), x_ft2 i lo k = k (lo.filter (fun q => !(q.1 == i) && (!(q.1 == i + 1) && !(q.1 + 1 == i && q.2.category == 2))))
  | [], _ => rfl
  | q :: r, k => by
    show cond (Nat.beq q.1 i) (x_ft2 i r k) (cond (Nat.beq q.1 (Nat.succ i)) (x_ft2 i r k) (cond (x_c2 i q) (x_ft2 i r k) (x_ft2 i r fun t => k (q :: t)))) = _
    rw [x_ft2_eq i r k, x_ft2_eq i r (fun t => k (q :: t)), List.filter_cons]
    have h2 : x_c2 i q = (q.1 + 1 == i && q.2.category == 2) := by
      unfold x_c2
      rw [x_beq_b, x_beq_b]
      cases (q.1.succ == i) <;> rfl
    rw [h2, x_beq_b, x_beq_b]
    cases (q.1 == i) <;> cases (q.1 == i + 1) <;> cases (q.1 + 1 == i && q.2.category == 2) <;> rfl
noncomputable def x_ld' (t : Value → Bool) (lo : x_Lo) (i : Nat) (st : List Value) : Option (x_Lo × List Value) := match x_gt lo i with
  | some v => cond (t v) (some (lo, v :: st)) none
  | none => none
theorem x_ld'_eq (t : Value → Bool) (lo : x_Lo) (i : Nat) (st : List Value) : x_ld' t lo i st = x_ld t lo i st := by
  unfold x_ld' x_ld
  rw [x_gt_eq]
  cases x_get lo i with
  | none => rfl
  | some v => exact x_cond_if Iff.rfl _ _
theorem x_blt_iff {a b : Nat} : Nat.blt a b = true ↔ a < b := ⟨fun h => Nat.le_of_ble_eq_true h, fun h => Nat.ble_eq_true_of_le h⟩
noncomputable def x_st' (nL : Nat) (t : Value → Bool) (lo : x_Lo) (i : Nat) (st : List Value) : Option (x_Lo × List Value) := match st with
  | v :: r => cond (t v) (cond (Nat.blt i nL) (x_ft i lo fun l => some ((i, v) :: l, r)) none) none
  | [] => none
theorem x_st'_eq (nL : Nat) (t : Value → Bool) (lo : x_Lo) (i : Nat) (st : List Value) : x_st' nL t lo i st = x_st nL t lo i st := by
  cases st with
  | nil => rfl
  | cons v r =>
    unfold x_st' x_st
    dsimp only
    rw [x_ft_eq]
    by_cases h1 : t v = true
    · by_cases h2 : i < nL
      · rw [if_pos ⟨h1, h2⟩, h1, x_blt_iff.mpr h2]; rfl
      · rw [if_neg (fun q => h2 q.2), h1, x_cond_if x_blt_iff, if_neg h2]; rfl
    · rw [if_neg (fun q => h1 q.1)]
      cases h3 : t v
      · rfl
      · exact absurd h3 h1
noncomputable def x_st2' (nL : Nat) (lo : x_Lo) (i : Nat) (st : List Value) : Option (x_Lo × List Value) := match st with
  | .long x :: r => cond (Nat.blt (Nat.succ i) nL) (x_ft2 i lo fun l => some ((i, .long x) :: l, r)) none
  | _ => none
theorem x_st2'_eq (nL : Nat) (lo : x_Lo) (i : Nat) (st : List Value) : x_st2' nL lo i st = x_st2 nL lo i st := by
  rcases st with _ | ⟨v, r⟩
  · rfl
  · cases v <;> try rfl
    unfold x_st2' x_st2
    dsimp only
    rw [x_ft2_eq]
    exact x_cond_if x_blt_iff _ _
noncomputable def x_inc' (nL : Nat) (lo : x_Lo) (i : Nat) (n : Int32) (st : List Value) : Option (x_Lo × List Value) := match x_gt lo i with
  | some (.int x) => cond (Nat.blt i nL) (x_sqN (x_n32 (x + n)) fun m => x_ft i lo fun l => some ((i, .int ⟨⟨BitVec.ofNat 32 m⟩⟩) :: l, st)) none
  | _ => none
noncomputable def x_op1 (nL : Nat) : Instr → Option (x_Lo → List Value → Option (x_Lo × List Value))
  | .iload_n k => some (fun lo st => x_ld' x_isI lo k st)
  | .iload i => some (fun lo st => x_ld' x_isI lo i st)
  | .lload_n k => some (fun lo st => x_ld' x_isL lo k st)
  | .lload i => some (fun lo st => x_ld' x_isL lo i st)
  | .aload_n k => some (fun lo st => x_ld' x_isR lo k st)
  | .aload i => some (fun lo st => x_ld' x_isR lo i st)
  | .istore_n k => some (fun lo st => x_st' nL x_isI lo k st)
  | .istore i => some (fun lo st => x_st' nL x_isI lo i st)
  | .astore_n k => some (fun lo st => x_st' nL x_isR lo k st)
  | .astore i => some (fun lo st => x_st' nL x_isR lo i st)
  | .lstore_n k => some (fun lo st => x_st2' nL lo k st)
  | .lstore i => some (fun lo st => x_st2' nL lo i st)
  | .iinc i n => some (fun lo st => x_inc' nL lo i (Int32.ofInt n) st)
  | _ => none
theorem x_op1_ok {nL : Nat} {ins : Instr} {f : x_Lo → List Value → Option (x_Lo × List Value)} (h : x_op1 nL ins = some f) (lo : x_Lo) (st : List Value) : f lo st = x_loc nL ins lo st := by
  unfold x_op1 at h
  split at h
  all_goals first
    | (cases h; done)
    | (cases h; exact x_ld'_eq _ _ _ _)
    | (cases h; exact x_st'_eq _ _ _ _ _)
    | (cases h; exact x_st2'_eq _ _ _ _)
    | skip
  case _ i n =>
    cases h
    unfold x_loc
    dsimp only
    unfold x_inc'
    rw [x_gt_eq]
    cases hx : x_get lo i with
    | none => rfl
    | some v =>
      cases v
      case int x =>
        dsimp only
        rw [x_sqN_eq, x_ft_eq, x_cond_if x_blt_iff]
        unfold x_n32 x_set1
        rw [BitVec.ofNat_toNat, BitVec.setWidth_eq]
      all_goals rfl
theorem x_b00 : x_b32 0 = 2147483648 := by decide
theorem x_e0 {x : Int32} : Nat.beq (x_n32 x) 0 = true ↔ x = 0 := x_eqb_iff (y := 0)
theorem x_l0 {x : Int32} : Nat.blt (x_b32 x) 2147483648 = true ↔ x < 0 := by rw [← x_ltb_iff]; unfold x_ltb; rw [x_b00]
theorem x_g0 {x : Int32} : Nat.ble 2147483648 (x_b32 x) = true ↔ 0 ≤ x := by rw [← x_leb_iff]; unfold x_leb; rw [x_b00]
theorem x_p0 {x : Int32} : Nat.blt 2147483648 (x_b32 x) = true ↔ 0 < x := by rw [← x_ltb_iff]; unfold x_ltb; rw [x_b00]
theorem x_m0 {x : Int32} : Nat.ble (x_b32 x) 2147483648 = true ↔ x ≤ 0 := by rw [← x_leb_iff]; unfold x_leb; rw [x_b00]
def x_op2 (a pc : Nat) : Instr → Option (List Value → Option (Nat × List Value))
  | .ifCond .eq _ => some (fun st => match st with | .int x :: r => some (cond (Nat.beq (x_n32 x) 0) a (pc + 3), r) | _ => none)
  | .ifCond .ne _ => some (fun st => match st with | .int x :: r => some (cond (Nat.beq (x_n32 x) 0) (pc + 3) a, r) | _ => none)
  | .ifCond .lt _ => some (fun st => match st with | .int x :: r => some (cond (Nat.blt (x_b32 x) 2147483648) a (pc + 3), r) | _ => none)
  | .ifCond .ge _ => some (fun st => match st with | .int x :: r => some (cond (Nat.ble 2147483648 (x_b32 x)) a (pc + 3), r) | _ => none)
  | .ifCond .gt _ => some (fun st => match st with | .int x :: r => some (cond (Nat.blt 2147483648 (x_b32 x)) a (pc + 3), r) | _ => none)
  | .ifCond .le _ => some (fun st => match st with | .int x :: r => some (cond (Nat.ble (x_b32 x) 2147483648) a (pc + 3), r) | _ => none)
  | .if_icmp .eq _ => some (fun st => match st with | .int y :: .int x :: r => some (cond (x_eqb x y) a (pc + 3), r) | _ => none)
  | .if_icmp .ne _ => some (fun st => match st with | .int y :: .int x :: r => some (cond (x_eqb x y) (pc + 3) a, r) | _ => none)
  | .if_icmp .lt _ => some (fun st => match st with | .int y :: .int x :: r => some (cond (x_ltb x y) a (pc + 3), r) | _ => none)
  | .if_icmp .ge _ => some (fun st => match st with | .int y :: .int x :: r => some (cond (x_leb y x) a (pc + 3), r) | _ => none)
  | .if_icmp .gt _ => some (fun st => match st with | .int y :: .int x :: r => some (cond (x_ltb y x) a (pc + 3), r) | _ => none)
  | .if_icmp .le _ => some (fun st => match st with | .int y :: .int x :: r => some (cond (x_leb x y) a (pc + 3), r) | _ => none)
  | .goto _ => some (fun st => some (a, st))
  | .ifnull _ => some (fun st => match st with | v :: r => if x_known v = true then some (if v = .null then a else pc + 3, r) else none | _ => none)
  | .ifnonnull _ => some (fun st => match st with | v :: r => if x_known v = true then some (if v = .null then pc + 3 else a, r) else none | _ => none)
  | .if_acmp .eq _ => some (fun st => match st with | w :: v :: r => if x_known v = true ∧ x_known w = true then some (if v = w then a else pc + 3, r) else none | _ => none)
  | .if_acmp .ne _ => some (fun st => match st with | w :: v :: r => if x_known v = true ∧ x_known w = true then some (if v = w then pc + 3 else a, r) else none | _ => none)
  | .lookupswitch d ps => some (fun st => match st with | .int x :: r => if (ps.toList.zip (ps.toList.drop 1)).all (fun (a, next) => a.1 < next.1) = true ∧ 0 ≤ (pc : Int) + Op.lookupswitch.offset ps.toList d x.toInt then some (((pc : Int) + Op.lookupswitch.offset ps.toList d x.toInt).toNat, r) else none | _ => none)
  | .tableswitch d lo hi offs => some (fun st => match st with | .int x :: r => (if x.toInt < lo ∨ hi < x.toInt then (if 0 ≤ (pc : Int) + d then some (((pc : Int) + d).toNat, r) else none) else match offs.toList[(x.toInt - lo).toNat]? with | some o => if 0 ≤ (pc : Int) + o then some (((pc : Int) + o).toNat, r) else none | none => none) | _ => none)
  | _ => none
theorem x_op2_ok {a pc : Nat} {ins : Instr} {f : List Value → Option (Nat × List Value)} (h : x_op2 a pc ins = some f) (st : List Value) : f st = x_br a pc ins st := by
  unfold x_op2 at h
  split at h
  all_goals first
    | (cases h; done)
    | (cases h; rcases st with _ | ⟨v, _ | ⟨w, r⟩⟩ <;> (try cases v) <;> (try cases w) <;> first | (dsimp only; simp only [x_cond_if x_e0, x_cond_if x_l0, x_cond_if x_g0, x_cond_if x_p0, x_cond_if x_m0, x_cond_if x_eqb_iff, x_cond_if x_ltb_iff, x_cond_if x_leb_iff]; unfold x_br; dsimp only; done) | (dsimp only; simp only [x_cond_if x_e0, x_cond_if x_l0, x_cond_if x_g0, x_cond_if x_p0, x_cond_if x_m0, x_cond_if x_eqb_iff, x_cond_if x_ltb_iff, x_cond_if x_leb_iff]; rfl) | rfl)
noncomputable def x_op3 (a b : Nat) (z : Int) : Instr → Option (List Value → x_W → Option (List Value × x_W))
  | .ldc _ => some (fun st W => if a = 0 then some (.int (Int32.ofInt z) :: st, W) else some (.retAddr 28 :: st, W))
  | .ldc_w _ => some (fun st W => some (.int (Int32.ofInt z) :: st, W))
  | .ldc2_w _ => some (fun st W => some (.long (Int64.ofInt z) :: st, W))
  | .getstatic _ => some (fun st W => match x_sts[a]? with | some s => some (s.2.2.2.1 :: st, W) | none => none)
  | .getfield _ => some (fun st W => match st with
    | .ref k :: r => (match x_gc W k with
    | some c => cond (x_isO c.1 a b) (some (x_fc c b ((x_fty a).getD b .int) :: r, W)) none
    | none => none)
    | .retAddr i :: r => (if a = 200 then (match x_xf b i with | some v => some (v :: r, W) | none => none) else none)
    | _ => none)
  | .putfield _ => some (fun st W => match st with
    | v :: .ref k :: r => (match x_gc W k with
    | some c => cond (x_isO c.1 a b) (cond (x_fit ((x_fty a).getD b .int) v) (x_pc W k c b ((x_fty a).getD b .int) v fun W' => some (r, W')) none) none
    | none => none)
    | _ => none)
  | .arraylength => some (fun st W => match st with
    | .ref k :: r => (match x_gc W k with
    | some c => (match c.1 with | .inr (t, n) => if t < 7 then some (.int (Int32.ofNat n) :: r, W) else none | _ => none)
    | none => none)
    | .retAddr i :: r => (match x_xa0 i with | some q => some (.int (Int32.ofNat q.2.1) :: r, W) | none => none)
    | _ => none)
  | .iaload => some (fun st W => match st with
    | .int i :: .ref k :: r => (match x_fld (fun t => t == 0) W k i with | some v => some (v :: r, W) | none => none)
    | .int i :: .retAddr e :: r => (match x_fdX (fun t => t == .int) e i with | some v => some (v :: r, W) | none => none)
    | _ => none)
  | .laload => some (fun st W => match st with
    | .int i :: .ref k :: r => (match x_fld (fun t => t == 1) W k i with | some v => some (v :: r, W) | none => none)
    | _ => none)
  | .baload => some (fun st W => match st with
    | .int i :: .ref k :: r => (match x_fld (fun t => t == 2 || t == 3) W k i with | some v => some (v :: r, W) | none => none)
    | .int i :: .retAddr e :: r => (match x_fdX (fun t => t == .byte) e i with | some v => some (v :: r, W) | none => none)
    | _ => none)
  | .aaload => some (fun st W => match st with
    | .int i :: .ref k :: r => (match x_fld (fun t => decide (4 ≤ t) && decide (t < 7)) W k i with | some v => some (v :: r, W) | none => none)
    | .int i :: .retAddr e :: r => (match x_fdX x_isObj e i with | some v => some (v :: r, W) | none => none)
    | _ => none)
  | .iastore => some (fun st W => match st with
    | .int x :: .int i :: .ref k :: r => (x_fst W k i 0 (.int x) r)
    | _ => none)
  | .lastore => some (fun st W => match st with
    | .long x :: .int i :: .ref k :: r => (x_fst W k i 1 (.long x) r)
    | _ => none)
  | .bastore => some (fun st W => match st with
    | .int x :: .int i :: .ref k :: r => (if x_faty W k = 2 then x_fst W k i 2 (narrow .byte (.int x)) r else if x_faty W k = 3 then x_fst W k i 3 (narrow .boolean (.int x)) r else none)
    | _ => none)
  | .aastore => some (fun st W => match st with
    | .null :: .int i :: .ref k :: r => (if 4 ≤ x_faty W k ∧ x_faty W k < 7 then x_fst W k i (x_faty W k) .null r else none)
    | .ref k2 :: .int i :: .ref k :: r => (match x_gc W k2 with
    | some c2 => if 4 ≤ x_faty W k ∧ x_faty W k < 7 ∧ c2.1 = .inl (x_eci (x_faty W k)) then x_fst W k i (x_faty W k) (.ref k2) r else none
    | none => none)
    | _ => none)
  | .new _ => some (fun st W => if a < 12 then x_nc W (.inl a) (fun W' => some (.ref W.1 :: st, W')) none else none)
  | .newarray at_ => some (fun st W => match st with
    | .int n :: r => (match x_atn at_ with | some t => if ¬ n < 0 ∧ n.toNatClampNeg ≤ 100000 then x_sqN n.toNatClampNeg fun m => x_nc W (.inr (t, m)) (fun W' => some (.ref W.1 :: r, W')) none else none | none => none)
    | _ => none)
  | .anewarray _ => some (fun st W => match st with
    | .int n :: r => (if 4 ≤ a ∧ a < 7 ∧ ¬ n < 0 ∧ n.toNatClampNeg ≤ 100000 then x_sqN n.toNatClampNeg fun m => x_nc W (.inr (a, m)) (fun W' => some (.ref W.1 :: r, W')) none else none)
    | _ => none)
  | _ => none
theorem x_op3_ok {a b : Nat} {z : Int} {ins : Instr} {f : List Value → x_W → Option (List Value × x_W)} (h : x_op3 a b z ins = some f) (st : List Value) (W : x_W) : f st W = x_fh a b z ins st W := by
  unfold x_op3 at h
  split at h
  all_goals first
    | (cases h; done)
    | (cases h; rfl)
    | (cases h; rcases st with _ | ⟨v, _ | ⟨w, _ | ⟨u, r⟩⟩⟩ <;> (try cases v) <;> (try cases w) <;> (try cases u) <;> rfl)
/-! ===== the quick machine ===== -/
noncomputable def x_sl {β : Type} (lo : x_Lo) (c : x_Lo → β) : β := match lo with
  | (i, .int x) :: r => x_sqN x.toUInt32.toBitVec.toNat (fun m => List.rec (motive := fun _ => (x_Lo → β) → β) (fun k => k []) (fun q _ ih k => ih (fun t => k (q :: t))) r (fun t => c ((i, .int ⟨⟨BitVec.ofNat 32 m⟩⟩) :: t)))
  | l => List.rec (motive := fun _ => (x_Lo → β) → β) (fun k => k []) (fun q _ ih k => ih (fun t => k (q :: t))) l c
theorem x_sl_aux {β : Type} : ∀ (l : x_Lo) (c : x_Lo → β), List.rec (motive := fun _ => (x_Lo → β) → β) (fun k => k []) (fun q _ ih k => ih (fun t => k (q :: t))) l c = c l
  | [], _ => rfl
  | q :: r, c => x_sl_aux r (fun t => c (q :: t))
theorem x_sl_eq {β : Type} (lo : x_Lo) (c : x_Lo → β) : x_sl lo c = c lo := by
  unfold x_sl
  split
  · rw [x_sqN_eq, x_sl_aux, BitVec.ofNat_toNat, BitVec.setWidth_eq]
  · rw [x_sl_aux]
def x_isld : Instr → Bool
  | .iload_n _ | .iload _ | .lload_n _ | .lload _ | .aload_n _ | .aload _ => true
  | _ => false
noncomputable def x_frcv (mi : Nat) (W : x_W) : List Value → Bool
  | .ref k :: _ => match x_gc W k with | some c => (match c.1 with | .inl ci => ci == x_mci mi && decide (x_mci mi < 12) | _ => false) | none => false
  | .retAddr i :: _ => i == 28 && x_mci mi == 100
  | _ => false
theorem x_frcv_ok {mi : Nat} {W : x_W} {G : x_G} {as : List Value} (hR : x_R W G) (h : x_frcv mi W as = true) : x_rcv mi G as = true := by
  unfold x_frcv at h
  unfold x_rcv
  split at h
  · split at h
    · next c hc =>
      dsimp only
      rw [(x_gc_R hR hc).2.2.1]
      cases hs : c.1 with
      | inl ci => rw [hs] at h; exact h
      | inr q => rw [hs] at h; cases h
    · cases h
  · exact h
  · cases h
def x_o0 (ins : Instr) (st : List Value) : Option (List Value) := match x_op0 ins with | some f => f st | none => none
noncomputable def x_o1 (nL : Nat) (ins : Instr) (lo : x_Lo) (st : List Value) : Option (x_Lo × List Value) := match x_op1 nL ins with | some f => f lo st | none => none
def x_o2 (a pc : Nat) (ins : Instr) (st : List Value) : Option (Nat × List Value) := match x_op2 a pc ins with | some f => f st | none => none
noncomputable def x_o3 (a b : Nat) (z : Int) (ins : Instr) (st : List Value) (W : x_W) : Option (List Value × x_W) := match x_op3 a b z ins with | some f => f st W | none => none
theorem x_o0_ok {ins : Instr} {st st' : List Value} (h : x_o0 ins st = some st') : x_alu ins st = some st' := by
  unfold x_o0 at h
  split at h
  · next hf => rw [← h]; exact (x_op0_ok hf st).symm
  · cases h
theorem x_o1_ok {nL : Nat} {ins : Instr} {lo : x_Lo} {st : List Value} {q : x_Lo × List Value} (h : x_o1 nL ins lo st = some q) : x_loc nL ins lo st = some q := by
  unfold x_o1 at h
  split at h
  · next hf => rw [← h]; exact (x_op1_ok hf lo st).symm
  · cases h
theorem x_o2_ok {a pc : Nat} {ins : Instr} {st : List Value} {q : Nat × List Value} (h : x_o2 a pc ins st = some q) : x_br a pc ins st = some q := by
  unfold x_o2 at h
  split at h
  · next hf => rw [← h]; exact (x_op2_ok hf st).symm
  · cases h
theorem x_o3_ok {a b : Nat} {z : Int} {ins : Instr} {st : List Value} {W : x_W} {q : List Value × x_W} (h : x_o3 a b z ins st W = some q) : x_fh a b z ins st W = some q := by
  unfold x_o3 at h
  split at h
  · next hf => rw [← h]; exact (x_op3_ok hf st W).symm
  · cases h
noncomputable def x_fast (n : Nat) : Nat → Nat → List (Nat × x_Row) → x_Lo → List Value → x_W → Option (Option Value × x_W) :=
  Nat.rec (motive := fun _ => Nat → Nat → List (Nat × x_Row) → x_Lo → List Value → x_W → Option (Option Value × x_W)) (fun _ _ _ _ _ _ => none) (fun _ IH d mi rs lo st W => match rs with
    | [] => none
    | (pc, ins, len, a, b, _, z) :: rt => match x_cat ins with
      | 0 => match x_o0 ins st with
        | some st' => x_sq st' fun st2 => IH d mi rt lo st2 W
        | none => none
      | 1 => match x_o1 (x_ml mi) ins lo st with
        | some (lo', st') => IH d mi rt lo' st' W
        | none => none
      | 2 => match x_o2 a pc ins st with
        | some (pc', st') => IH d mi (x_nx mi pc len pc' rt) lo st' W
        | none => none
      | 3 => match x_o3 a b z ins st W with
        | some (st', W') => x_sq st' fun st2 => IH d mi rt lo st2 W'
        | none => none
      | 4 => cond (Nat.beq len 3) (if a = 1000 then (match st with
          | .ref _ :: r => if 1 ≤ d ∧ x_words r ≤ 8 then IH d mi rt lo r W else none
          | _ => none)
        else if a = 1001 then none
        else if a = 1002 ∨ a = 1003 then (match st with
          | .int y :: .int x :: r => if 1 ≤ d ∧ x_words r ≤ 8 then x_sq (.int (x_mm a x y) :: r) fun st2 => IH d mi rt lo st2 W else none
          | _ => none)
        else if 1 ≤ d ∧ b ≤ st.length ∧ x_words (st.drop b) ≤ 8 ∧ x_words (st.take b) ≤ x_ml a ∧ (x_stat a = true ∨ x_frcv a W (st.take b).reverse = true) then
          x_sl (lv_args 0 (st.take b).reverse) fun lo2 => match IH (d - 1) a (x_tb a) lo2 [] W with
          | some (v, W') => x_sq (v.toList ++ st.drop b) fun st2 => IH d mi rt lo st2 W'
          | none => none
        else none) none
      | _ => match x_ret (x_rt mi) ins st with
        | some v => some (v, W)
        | none => none) n
theorem x_fast_s (n d mi : Nat) (rs : List (Nat × x_Row)) (lo : x_Lo) (st : List Value) (W : x_W) : x_fast (n + 1) d mi rs lo st W = match rs with
    | [] => none
    | (pc, ins, len, a, b, _, z) :: rt => match x_cat ins with
      | 0 => match x_o0 ins st with
        | some st' => x_sq st' fun st2 => x_fast n d mi rt lo st2 W
        | none => none
      | 1 => match x_o1 (x_ml mi) ins lo st with
        | some (lo', st') => x_fast n d mi rt lo' st' W
        | none => none
      | 2 => match x_o2 a pc ins st with
        | some (pc', st') => x_fast n d mi (x_nx mi pc len pc' rt) lo st' W
        | none => none
      | 3 => match x_o3 a b z ins st W with
        | some (st', W') => x_sq st' fun st2 => x_fast n d mi rt lo st2 W'
        | none => none
      | 4 => cond (Nat.beq len 3) (if a = 1000 then (match st with
          | .ref _ :: r => if 1 ≤ d ∧ x_words r ≤ 8 then x_fast n d mi rt lo r W else none
          | _ => none)
        else if a = 1001 then none
        else if a = 1002 ∨ a = 1003 then (match st with
          | .int y :: .int x :: r => if 1 ≤ d ∧ x_words r ≤ 8 then x_sq (.int (x_mm a x y) :: r) fun st2 => x_fast n d mi rt lo st2 W else none
          | _ => none)
        else if 1 ≤ d ∧ b ≤ st.length ∧ x_words (st.drop b) ≤ 8 ∧ x_words (st.take b) ≤ x_ml a ∧ (x_stat a = true ∨ x_frcv a W (st.take b).reverse = true) then
          x_sl (lv_args 0 (st.take b).reverse) fun lo2 => match x_fast n (d - 1) a (x_tb a) lo2 [] W with
          | some (v, W') => x_sq (v.toList ++ st.drop b) fun st2 => x_fast n d mi rt lo st2 W'
          | none => none
        else none) none
      | _ => match x_ret (x_rt mi) ins st with
        | some v => some (v, W)
        | none => none := rfl
theorem x_isld_ok {nL : Nat} {ins : Instr} {lo lo' : x_Lo} {st st' : List Value} (h : x_isld ins = true) (hl : x_loc nL ins lo st = some (lo', st')) : lo' = lo := by
  cases ins
  all_goals first
    | (cases h; done)
    | (have hl2 := hl; unfold x_loc at hl2; dsimp only at hl2; obtain ⟨_, _, _, h3, _⟩ := x_ld_spec hl2; exact h3)
theorem x_fast_ok {X : x_Ext} : ∀ (n d mi pc : Nat) (rs : List (Nat × x_Row)) (lo : x_Lo) (st : List Value) (W : x_W) (v : Option Value) (W' : x_W), x_at1 mi pc rs → x_fast n d mi rs lo st W = some (v, W') → ∀ G : x_G, x_R W G → ∃ G', x_exec X n d mi pc lo st G = some (v, G') ∧ x_R W' G' := by
  intro n
  induction n with
  | zero => intro d mi pc rs lo st W v W' _ h; cases h
  | succ n ih =>
    intro d mi pc rs lo st W v W' hat h G hR
    rw [x_fast_s] at h
    unfold x_exec
    split at h
    · cases h
    · next k ins len a b q z rt =>
      obtain ⟨hk, hrow, hnx⟩ := x_at1_row hat
      subst hk
      have hnx : x_at1 mi (k + len) rt := hnx
      rw [hrow]; dsimp only
      split at h
      · next hc =>
        rw [hc]; (try dsimp only)
        split at h
        · next hh => rw [x_sq_eq] at h; rw [x_o0_ok hh]; exact ih _ _ _ _ _ _ _ _ _ hnx h G hR
        · cases h
      · next hc =>
        rw [hc]; (try dsimp only)
        split at h
        · next lo' st' hh =>
          have hh := x_o1_ok hh
          rw [hh]; dsimp only
          exact ih _ _ _ _ _ _ _ _ _ hnx h G hR
        · cases h
      · next hc =>
        rw [hc]; (try dsimp only)
        split at h
        · next hh => rw [x_o2_ok hh]; exact ih _ _ _ _ _ _ _ _ _ (x_nx_ok hnx) h G hR
        · cases h
      · next hc =>
        rw [hc]; (try dsimp only)
        split at h
        · next hh =>
          rw [x_sq_eq] at h
          obtain ⟨G2, h1, h2⟩ := x_fh_ok (X := X) hR (x_o3_ok hh)
          rw [h1]; exact ih _ _ _ _ _ _ _ _ _ hnx h G2 h2
        · cases h
      · next hc =>
        rw [hc]; (try dsimp only)
        cases hl3 : Nat.beq len 3
        · rw [hl3] at h; cases h
        rw [hl3] at h
        have hl3 : len = 3 := Nat.eq_of_beq_eq_true hl3
        rw [hl3] at hnx
        simp only [cond] at h
        split at h
        · next ha =>
          rw [if_pos ha]
          split at h
          · split at h
            · next hd => dsimp only; rw [if_pos hd]; exact ih _ _ _ _ _ _ _ _ _ hnx h G hR
            · cases h
          · cases h
        · next ha =>
          rw [if_neg ha]
          split at h
          · cases h
          · next ha1 =>
            rw [if_neg ha1]
            split at h
            · next ha2 =>
              rw [if_pos ha2]
              split at h
              · split at h
                · next hd => rw [x_sq_eq] at h; dsimp only; rw [if_pos hd]; exact ih _ _ _ _ _ _ _ _ _ hnx h G hR
                · cases h
              · cases h
            · next ha2 =>
              rw [if_neg ha2]
              split at h
              · next hq =>
                rw [x_sl_eq] at h
                rw [if_pos ⟨hq.1, hq.2.1, hq.2.2.1, hq.2.2.2.1, hq.2.2.2.2.imp id (x_frcv_ok hR)⟩]
                split at h
                · next v2 W2 hcall =>
                  rw [x_sq_eq] at h
                  obtain ⟨G2, h1, h2⟩ := ih _ _ 0 _ _ _ _ _ _ (x_at1_0 a) hcall G hR
                  rw [h1]; exact ih _ _ _ _ _ _ _ _ _ hnx h G2 h2
                · cases h
              · cases h
      · next hc0 hc1 hc2 hc3 hc4 =>
        split at h
        · next v2 hret =>
          cases h
          refine ⟨G, ?_, hR⟩
          split
          all_goals first
            | (exfalso; simp_all; done)
            | (rw [hret])
        · cases h
def x_W0 : x_W := (0, x_Te)
theorem x_R0 : x_R x_W0 x_G0 := ⟨rfl, by decide, fun k _ => by show ([] : List _)[k]? = (x_tg 8 x_Te k).map _; rw [x_tg_e]; rfl, fun k _ c h => by have h : x_tg 8 (x_Te : x_T x_C) k = some c := h; rw [x_tg_e] at h; cases h⟩
end
section
theorem x_t2 : (match x_fast 3000 999 n_X12_init (x_tb n_X12_init) [(0, .ref 0)] [] (x_nc x_W0 (.inl 11) id x_W0) with | some (_, W) => (match x_fast 200000 999 n_X12_least (x_tb n_X12_least) [(0, .ref 0)] [] W with | some (v, _) => some v | none => none) | none => none) = some (some (.int 0)) := by decide +kernel
end
