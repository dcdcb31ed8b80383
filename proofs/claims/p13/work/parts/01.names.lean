-- ===== PART A: goes FIRST, ahead of the names: the tables' words, and 'selects' of the private methods out of them =====
/-- a private method of a class that the tables say can be made, by its rows of tables_1 -/
def lw_okq (q : MethodName × Nat) : Prop := (q.1.cls ≠ "java/lang/invoke/MethodHandle" ∧ q.1.cls ≠ "java/lang/invoke/VarHandle") ∧ Cond.instantiable q.1.cls q.2 ∈ tables_1 ∧ Cond.privateMethod q.1 ∈ tables_1 ∧ Cond.instanceMethod q.1 ∈ tables_1
theorem lw_p0 : lw_okq (⟨"ShadowCourt$Tape", "putNumber", "(I)V"⟩, 5) := ⟨⟨by decide +kernel, by decide +kernel⟩, List.mem_of_getElem? (i := 24) (by decide +kernel), List.mem_of_getElem? (i := 387) (by decide +kernel), List.mem_of_getElem? (i := 388) (by decide +kernel)⟩
theorem lw_p1 : lw_okq (⟨"ShadowCourt$Tape", "open", "(I)V"⟩, 5) := ⟨⟨by decide +kernel, by decide +kernel⟩, List.mem_of_getElem? (i := 24) (by decide +kernel), List.mem_of_getElem? (i := 398) (by decide +kernel), List.mem_of_getElem? (i := 399) (by decide +kernel)⟩
theorem lw_p2 : lw_okq (⟨"ShadowCourt$Market", "readFrom", "(LShadowCourt$Tape;)Z"⟩, 5) := ⟨⟨by decide +kernel, by decide +kernel⟩, List.mem_of_getElem? (i := 52) (by decide +kernel), List.mem_of_getElem? (i := 405) (by decide +kernel), List.mem_of_getElem? (i := 406) (by decide +kernel)⟩
theorem lw_p3 : lw_okq (⟨"ShadowCourt$Market", "readRow", "(LShadowCourt$Tape;I)Z"⟩, 5) := ⟨⟨by decide +kernel, by decide +kernel⟩, List.mem_of_getElem? (i := 52) (by decide +kernel), List.mem_of_getElem? (i := 409) (by decide +kernel), List.mem_of_getElem? (i := 410) (by decide +kernel)⟩
theorem lw_p4 : lw_okq (⟨"ShadowCourt$Tape", "sign", "()I"⟩, 5) := ⟨⟨by decide +kernel, by decide +kernel⟩, List.mem_of_getElem? (i := 24) (by decide +kernel), List.mem_of_getElem? (i := 413) (by decide +kernel), List.mem_of_getElem? (i := 414) (by decide +kernel)⟩
theorem lw_p5 : lw_okq (⟨"ShadowCourt$Tape", "fails", "(II)Z"⟩, 5) := ⟨⟨by decide +kernel, by decide +kernel⟩, List.mem_of_getElem? (i := 24) (by decide +kernel), List.mem_of_getElem? (i := 420) (by decide +kernel), List.mem_of_getElem? (i := 421) (by decide +kernel)⟩
theorem lw_p6 : lw_okq (⟨"ShadowCourt$Tape", "passes", "(I)Z"⟩, 5) := ⟨⟨by decide +kernel, by decide +kernel⟩, List.mem_of_getElem? (i := 24) (by decide +kernel), List.mem_of_getElem? (i := 430) (by decide +kernel), List.mem_of_getElem? (i := 431) (by decide +kernel)⟩
theorem lw_p7 : lw_okq (⟨"ShadowCourt$Tape", "drop", "()V"⟩, 5) := ⟨⟨by decide +kernel, by decide +kernel⟩, List.mem_of_getElem? (i := 24) (by decide +kernel), List.mem_of_getElem? (i := 439) (by decide +kernel), List.mem_of_getElem? (i := 440) (by decide +kernel)⟩
theorem lw_p8 : lw_okq (⟨"ShadowCourt", "sendAwayWhoCannotStand", "()V"⟩, 12) := ⟨⟨by decide +kernel, by decide +kernel⟩, List.mem_of_getElem? (i := 16) (by decide +kernel), List.mem_of_getElem? (i := 443) (by decide +kernel), List.mem_of_getElem? (i := 444) (by decide +kernel)⟩
theorem lw_p9 : lw_okq (⟨"ShadowCourt$Market", "isOpen", "(I)Z"⟩, 5) := ⟨⟨by decide +kernel, by decide +kernel⟩, List.mem_of_getElem? (i := 52) (by decide +kernel), List.mem_of_getElem? (i := 447) (by decide +kernel), List.mem_of_getElem? (i := 448) (by decide +kernel)⟩
theorem lw_p10 : lw_okq (⟨"ShadowCourt$Market", "kindAt", "(I)I"⟩, 5) := ⟨⟨by decide +kernel, by decide +kernel⟩, List.mem_of_getElem? (i := 52) (by decide +kernel), List.mem_of_getElem? (i := 451) (by decide +kernel), List.mem_of_getElem? (i := 452) (by decide +kernel)⟩
theorem lw_p11 : lw_okq (⟨"ShadowCourt$Day", "setFelon", "(III)V"⟩, 12) := ⟨⟨by decide +kernel, by decide +kernel⟩, List.mem_of_getElem? (i := 210) (by decide +kernel), List.mem_of_getElem? (i := 455) (by decide +kernel), List.mem_of_getElem? (i := 456) (by decide +kernel)⟩
theorem lw_p12 : lw_okq (⟨"ShadowCourt$Market", "howMany", "(I)I"⟩, 5) := ⟨⟨by decide +kernel, by decide +kernel⟩, List.mem_of_getElem? (i := 52) (by decide +kernel), List.mem_of_getElem? (i := 459) (by decide +kernel), List.mem_of_getElem? (i := 460) (by decide +kernel)⟩
theorem lw_p13 : lw_okq (⟨"ShadowCourt$LawReader", "readWhole", "()Z"⟩, 2) := ⟨⟨by decide +kernel, by decide +kernel⟩, List.mem_of_getElem? (i := 119) (by decide +kernel), List.mem_of_getElem? (i := 467) (by decide +kernel), List.mem_of_getElem? (i := 468) (by decide +kernel)⟩
theorem lw_p14 : lw_okq (⟨"ShadowCourt$Law", "empty", "()V"⟩, 9) := ⟨⟨by decide +kernel, by decide +kernel⟩, List.mem_of_getElem? (i := 77) (by decide +kernel), List.mem_of_getElem? (i := 471) (by decide +kernel), List.mem_of_getElem? (i := 472) (by decide +kernel)⟩
theorem lw_p15 : lw_okq (⟨"ShadowCourt$LawReader", "readClause", "(II)Z"⟩, 2) := ⟨⟨by decide +kernel, by decide +kernel⟩, List.mem_of_getElem? (i := 119) (by decide +kernel), List.mem_of_getElem? (i := 480) (by decide +kernel), List.mem_of_getElem? (i := 481) (by decide +kernel)⟩
def lw_privs_1 : List (MethodName × Nat) := [(⟨"ShadowCourt$Tape", "putNumber", "(I)V"⟩, 5), (⟨"ShadowCourt$Tape", "open", "(I)V"⟩, 5), (⟨"ShadowCourt$Market", "readFrom", "(LShadowCourt$Tape;)Z"⟩, 5), (⟨"ShadowCourt$Market", "readRow", "(LShadowCourt$Tape;I)Z"⟩, 5), (⟨"ShadowCourt$Tape", "sign", "()I"⟩, 5), (⟨"ShadowCourt$Tape", "fails", "(II)Z"⟩, 5), (⟨"ShadowCourt$Tape", "passes", "(I)Z"⟩, 5), (⟨"ShadowCourt$Tape", "drop", "()V"⟩, 5), (⟨"ShadowCourt", "sendAwayWhoCannotStand", "()V"⟩, 12), (⟨"ShadowCourt$Market", "isOpen", "(I)Z"⟩, 5), (⟨"ShadowCourt$Market", "kindAt", "(I)I"⟩, 5), (⟨"ShadowCourt$Day", "setFelon", "(III)V"⟩, 12), (⟨"ShadowCourt$Market", "howMany", "(I)I"⟩, 5), (⟨"ShadowCourt$LawReader", "readWhole", "()Z"⟩, 2), (⟨"ShadowCourt$Law", "empty", "()V"⟩, 9), (⟨"ShadowCourt$LawReader", "readClause", "(II)Z"⟩, 2)]
theorem lw_r1 : ∀ q ∈ lw_privs_1, lw_okq q := List.forall_mem_cons.mpr ⟨lw_p0, List.forall_mem_cons.mpr ⟨lw_p1, List.forall_mem_cons.mpr ⟨lw_p2, List.forall_mem_cons.mpr ⟨lw_p3, List.forall_mem_cons.mpr ⟨lw_p4, List.forall_mem_cons.mpr ⟨lw_p5, List.forall_mem_cons.mpr ⟨lw_p6, List.forall_mem_cons.mpr ⟨lw_p7, List.forall_mem_cons.mpr ⟨lw_p8, List.forall_mem_cons.mpr ⟨lw_p9, List.forall_mem_cons.mpr ⟨lw_p10, List.forall_mem_cons.mpr ⟨lw_p11, List.forall_mem_cons.mpr ⟨lw_p12, List.forall_mem_cons.mpr ⟨lw_p13, List.forall_mem_cons.mpr ⟨lw_p14, List.forall_mem_cons.mpr ⟨lw_p15, fun _ h => absurd h List.not_mem_nil⟩⟩⟩⟩⟩⟩⟩⟩⟩⟩⟩⟩⟩⟩⟩⟩
theorem lw_p16 : lw_okq (⟨"ShadowCourt$LawReader", "readSum", "(I)Z"⟩, 2) := ⟨⟨by decide +kernel, by decide +kernel⟩, List.mem_of_getElem? (i := 119) (by decide +kernel), List.mem_of_getElem? (i := 484) (by decide +kernel), List.mem_of_getElem? (i := 485) (by decide +kernel)⟩
theorem lw_p17 : lw_okq (⟨"ShadowCourt$LawReader", "readTerm", "(I)Z"⟩, 2) := ⟨⟨by decide +kernel, by decide +kernel⟩, List.mem_of_getElem? (i := 119) (by decide +kernel), List.mem_of_getElem? (i := 488) (by decide +kernel), List.mem_of_getElem? (i := 489) (by decide +kernel)⟩
theorem lw_p18 : lw_okq (⟨"ShadowCourt$LawReader", "readFactor", "(I)Z"⟩, 2) := ⟨⟨by decide +kernel, by decide +kernel⟩, List.mem_of_getElem? (i := 119) (by decide +kernel), List.mem_of_getElem? (i := 492) (by decide +kernel), List.mem_of_getElem? (i := 493) (by decide +kernel)⟩
theorem lw_p19 : lw_okq (⟨"ShadowCourt$Tape", "isDigit", "()Z"⟩, 5) := ⟨⟨by decide +kernel, by decide +kernel⟩, List.mem_of_getElem? (i := 24) (by decide +kernel), List.mem_of_getElem? (i := 496) (by decide +kernel), List.mem_of_getElem? (i := 497) (by decide +kernel)⟩
theorem lw_p20 : lw_okq (⟨"ShadowCourt$LawReader", "readNumber", "()Z"⟩, 2) := ⟨⟨by decide +kernel, by decide +kernel⟩, List.mem_of_getElem? (i := 119) (by decide +kernel), List.mem_of_getElem? (i := 500) (by decide +kernel), List.mem_of_getElem? (i := 501) (by decide +kernel)⟩
theorem lw_p21 : lw_okq (⟨"ShadowCourt$Law", "put", "(II)I"⟩, 9) := ⟨⟨by decide +kernel, by decide +kernel⟩, List.mem_of_getElem? (i := 77) (by decide +kernel), List.mem_of_getElem? (i := 504) (by decide +kernel), List.mem_of_getElem? (i := 505) (by decide +kernel)⟩
theorem lw_p22 : lw_okq (⟨"ShadowCourt$LawReader", "readParts", "(I)Z"⟩, 2) := ⟨⟨by decide +kernel, by decide +kernel⟩, List.mem_of_getElem? (i := 119) (by decide +kernel), List.mem_of_getElem? (i := 512) (by decide +kernel), List.mem_of_getElem? (i := 513) (by decide +kernel)⟩
theorem lw_p23 : lw_okq (⟨"ShadowCourt$LawReader", "readPieces", "(I)Z"⟩, 2) := ⟨⟨by decide +kernel, by decide +kernel⟩, List.mem_of_getElem? (i := 119) (by decide +kernel), List.mem_of_getElem? (i := 516) (by decide +kernel), List.mem_of_getElem? (i := 517) (by decide +kernel)⟩
theorem lw_p24 : lw_okq (⟨"ShadowCourt$LawReader", "readPiece", "(I)Z"⟩, 2) := ⟨⟨by decide +kernel, by decide +kernel⟩, List.mem_of_getElem? (i := 119) (by decide +kernel), List.mem_of_getElem? (i := 520) (by decide +kernel), List.mem_of_getElem? (i := 521) (by decide +kernel)⟩
theorem lw_p25 : lw_okq (⟨"ShadowCourt$Law", "landSkip", "(I)V"⟩, 9) := ⟨⟨by decide +kernel, by decide +kernel⟩, List.mem_of_getElem? (i := 77) (by decide +kernel), List.mem_of_getElem? (i := 524) (by decide +kernel), List.mem_of_getElem? (i := 525) (by decide +kernel)⟩
theorem lw_p26 : lw_okq (⟨"ShadowCourt$Law", "copyFrom", "(LShadowCourt$Law;)V"⟩, 9) := ⟨⟨by decide +kernel, by decide +kernel⟩, List.mem_of_getElem? (i := 77) (by decide +kernel), List.mem_of_getElem? (i := 528) (by decide +kernel), List.mem_of_getElem? (i := 529) (by decide +kernel)⟩
theorem lw_p27 : lw_okq (⟨"ShadowCourt$Market", "openSpot", "(II)I"⟩, 5) := ⟨⟨by decide +kernel, by decide +kernel⟩, List.mem_of_getElem? (i := 52) (by decide +kernel), List.mem_of_getElem? (i := 537) (by decide +kernel), List.mem_of_getElem? (i := 538) (by decide +kernel)⟩
theorem lw_p28 : lw_okq (⟨"ShadowCourt$WalkReader", "readWhole", "()Z"⟩, 3) := ⟨⟨by decide +kernel, by decide +kernel⟩, List.mem_of_getElem? (i := 135) (by decide +kernel), List.mem_of_getElem? (i := 549) (by decide +kernel), List.mem_of_getElem? (i := 550) (by decide +kernel)⟩
theorem lw_p29 : lw_okq (⟨"ShadowCourt$WalkReader", "readSteps", "(I)Z"⟩, 3) := ⟨⟨by decide +kernel, by decide +kernel⟩, List.mem_of_getElem? (i := 135) (by decide +kernel), List.mem_of_getElem? (i := 553) (by decide +kernel), List.mem_of_getElem? (i := 554) (by decide +kernel)⟩
theorem lw_p30 : lw_okq (⟨"ShadowCourt$WalkReader", "readStep", "(I)Z"⟩, 3) := ⟨⟨by decide +kernel, by decide +kernel⟩, List.mem_of_getElem? (i := 135) (by decide +kernel), List.mem_of_getElem? (i := 557) (by decide +kernel), List.mem_of_getElem? (i := 558) (by decide +kernel)⟩
theorem lw_p31 : lw_okq (⟨"ShadowCourt$WalkReader", "repeat", "(II)Z"⟩, 3) := ⟨⟨by decide +kernel, by decide +kernel⟩, List.mem_of_getElem? (i := 135) (by decide +kernel), List.mem_of_getElem? (i := 564) (by decide +kernel), List.mem_of_getElem? (i := 565) (by decide +kernel)⟩
def lw_privs_2 : List (MethodName × Nat) := [(⟨"ShadowCourt$LawReader", "readSum", "(I)Z"⟩, 2), (⟨"ShadowCourt$LawReader", "readTerm", "(I)Z"⟩, 2), (⟨"ShadowCourt$LawReader", "readFactor", "(I)Z"⟩, 2), (⟨"ShadowCourt$Tape", "isDigit", "()Z"⟩, 5), (⟨"ShadowCourt$LawReader", "readNumber", "()Z"⟩, 2), (⟨"ShadowCourt$Law", "put", "(II)I"⟩, 9), (⟨"ShadowCourt$LawReader", "readParts", "(I)Z"⟩, 2), (⟨"ShadowCourt$LawReader", "readPieces", "(I)Z"⟩, 2), (⟨"ShadowCourt$LawReader", "readPiece", "(I)Z"⟩, 2), (⟨"ShadowCourt$Law", "landSkip", "(I)V"⟩, 9), (⟨"ShadowCourt$Law", "copyFrom", "(LShadowCourt$Law;)V"⟩, 9), (⟨"ShadowCourt$Market", "openSpot", "(II)I"⟩, 5), (⟨"ShadowCourt$WalkReader", "readWhole", "()Z"⟩, 3), (⟨"ShadowCourt$WalkReader", "readSteps", "(I)Z"⟩, 3), (⟨"ShadowCourt$WalkReader", "readStep", "(I)Z"⟩, 3), (⟨"ShadowCourt$WalkReader", "repeat", "(II)Z"⟩, 3)]
theorem lw_r2 : ∀ q ∈ lw_privs_2, lw_okq q := List.forall_mem_cons.mpr ⟨lw_p16, List.forall_mem_cons.mpr ⟨lw_p17, List.forall_mem_cons.mpr ⟨lw_p18, List.forall_mem_cons.mpr ⟨lw_p19, List.forall_mem_cons.mpr ⟨lw_p20, List.forall_mem_cons.mpr ⟨lw_p21, List.forall_mem_cons.mpr ⟨lw_p22, List.forall_mem_cons.mpr ⟨lw_p23, List.forall_mem_cons.mpr ⟨lw_p24, List.forall_mem_cons.mpr ⟨lw_p25, List.forall_mem_cons.mpr ⟨lw_p26, List.forall_mem_cons.mpr ⟨lw_p27, List.forall_mem_cons.mpr ⟨lw_p28, List.forall_mem_cons.mpr ⟨lw_p29, List.forall_mem_cons.mpr ⟨lw_p30, List.forall_mem_cons.mpr ⟨lw_p31, fun _ h => absurd h List.not_mem_nil⟩⟩⟩⟩⟩⟩⟩⟩⟩⟩⟩⟩⟩⟩⟩⟩
theorem lw_p32 : lw_okq (⟨"ShadowCourt$WalkReader", "copyOfSteps", "()[I"⟩, 3) := ⟨⟨by decide +kernel, by decide +kernel⟩, List.mem_of_getElem? (i := 135) (by decide +kernel), List.mem_of_getElem? (i := 571) (by decide +kernel), List.mem_of_getElem? (i := 572) (by decide +kernel)⟩
theorem lw_p33 : lw_okq (⟨"ShadowCourt$Day", "setWalk", "(I[I)V"⟩, 12) := ⟨⟨by decide +kernel, by decide +kernel⟩, List.mem_of_getElem? (i := 210) (by decide +kernel), List.mem_of_getElem? (i := 577) (by decide +kernel), List.mem_of_getElem? (i := 578) (by decide +kernel)⟩
theorem lw_p34 : lw_okq (⟨"ShadowCourt$Clock", "goOn", "(LShadowCourt$Day;II)I"⟩, 6) := ⟨⟨by decide +kernel, by decide +kernel⟩, List.mem_of_getElem? (i := 152) (by decide +kernel), List.mem_of_getElem? (i := 593) (by decide +kernel), List.mem_of_getElem? (i := 594) (by decide +kernel)⟩
theorem lw_p35 : lw_okq (⟨"ShadowCourt$Day", "owedByAll", "()I"⟩, 12) := ⟨⟨by decide +kernel, by decide +kernel⟩, List.mem_of_getElem? (i := 210) (by decide +kernel), List.mem_of_getElem? (i := 597) (by decide +kernel), List.mem_of_getElem? (i := 598) (by decide +kernel)⟩
theorem lw_p36 : lw_okq (⟨"ShadowCourt$Clock", "judgesStep", "(LShadowCourt$Day;)V"⟩, 6) := ⟨⟨by decide +kernel, by decide +kernel⟩, List.mem_of_getElem? (i := 152) (by decide +kernel), List.mem_of_getElem? (i := 601) (by decide +kernel), List.mem_of_getElem? (i := 602) (by decide +kernel)⟩
theorem lw_p37 : lw_okq (⟨"ShadowCourt$Day", "hasJudge", "(I)Z"⟩, 12) := ⟨⟨by decide +kernel, by decide +kernel⟩, List.mem_of_getElem? (i := 210) (by decide +kernel), List.mem_of_getElem? (i := 605) (by decide +kernel), List.mem_of_getElem? (i := 606) (by decide +kernel)⟩
theorem lw_p38 : lw_okq (⟨"ShadowCourt$Day", "takeStep", "(I)I"⟩, 12) := ⟨⟨by decide +kernel, by decide +kernel⟩, List.mem_of_getElem? (i := 210) (by decide +kernel), List.mem_of_getElem? (i := 609) (by decide +kernel), List.mem_of_getElem? (i := 610) (by decide +kernel)⟩
theorem lw_p39 : lw_okq (⟨"ShadowCourt$Day", "stepsLeft", "(I)I"⟩, 12) := ⟨⟨by decide +kernel, by decide +kernel⟩, List.mem_of_getElem? (i := 210) (by decide +kernel), List.mem_of_getElem? (i := 613) (by decide +kernel), List.mem_of_getElem? (i := 614) (by decide +kernel)⟩
theorem lw_p40 : lw_okq (⟨"ShadowCourt$Law", "tellMinute", "(I)V"⟩, 9) := ⟨⟨by decide +kernel, by decide +kernel⟩, List.mem_of_getElem? (i := 77) (by decide +kernel), List.mem_of_getElem? (i := 625) (by decide +kernel), List.mem_of_getElem? (i := 626) (by decide +kernel)⟩
theorem lw_p41 : lw_okq (⟨"ShadowCourt$Day", "draw", "()I"⟩, 12) := ⟨⟨by decide +kernel, by decide +kernel⟩, List.mem_of_getElem? (i := 210) (by decide +kernel), List.mem_of_getElem? (i := 629) (by decide +kernel), List.mem_of_getElem? (i := 630) (by decide +kernel)⟩
theorem lw_p42 : lw_okq (⟨"ShadowCourt$Law", "worthOf", "(II)I"⟩, 9) := ⟨⟨by decide +kernel, by decide +kernel⟩, List.mem_of_getElem? (i := 77) (by decide +kernel), List.mem_of_getElem? (i := 634) (by decide +kernel), List.mem_of_getElem? (i := 635) (by decide +kernel)⟩
theorem lw_p43 : lw_okq (⟨"ShadowCourt$Law", "reckon", "(I)I"⟩, 9) := ⟨⟨by decide +kernel, by decide +kernel⟩, List.mem_of_getElem? (i := 77) (by decide +kernel), List.mem_of_getElem? (i := 638) (by decide +kernel), List.mem_of_getElem? (i := 639) (by decide +kernel)⟩
theorem lw_p44 : lw_okq (⟨"ShadowCourt$Law", "toldAt", "(I)I"⟩, 9) := ⟨⟨by decide +kernel, by decide +kernel⟩, List.mem_of_getElem? (i := 77) (by decide +kernel), List.mem_of_getElem? (i := 642) (by decide +kernel), List.mem_of_getElem? (i := 643) (by decide +kernel)⟩
theorem lw_p45 : lw_okq (⟨"ShadowCourt$Law", "isNight", "(I)Z"⟩, 9) := ⟨⟨by decide +kernel, by decide +kernel⟩, List.mem_of_getElem? (i := 77) (by decide +kernel), List.mem_of_getElem? (i := 651) (by decide +kernel), List.mem_of_getElem? (i := 652) (by decide +kernel)⟩
theorem lw_p46 : lw_okq (⟨"ShadowCourt$Clock", "cast", "(LShadowCourt$Day;ZZ)V"⟩, 6) := ⟨⟨by decide +kernel, by decide +kernel⟩, List.mem_of_getElem? (i := 152) (by decide +kernel), List.mem_of_getElem? (i := 656) (by decide +kernel), List.mem_of_getElem? (i := 657) (by decide +kernel)⟩
theorem lw_p47 : lw_okq (⟨"ShadowCourt$Shadows", "clear", "()V"⟩, 4) := ⟨⟨by decide +kernel, by decide +kernel⟩, List.mem_of_getElem? (i := 158) (by decide +kernel), List.mem_of_getElem? (i := 660) (by decide +kernel), List.mem_of_getElem? (i := 661) (by decide +kernel)⟩
def lw_privs_3 : List (MethodName × Nat) := [(⟨"ShadowCourt$WalkReader", "copyOfSteps", "()[I"⟩, 3), (⟨"ShadowCourt$Day", "setWalk", "(I[I)V"⟩, 12), (⟨"ShadowCourt$Clock", "goOn", "(LShadowCourt$Day;II)I"⟩, 6), (⟨"ShadowCourt$Day", "owedByAll", "()I"⟩, 12), (⟨"ShadowCourt$Clock", "judgesStep", "(LShadowCourt$Day;)V"⟩, 6), (⟨"ShadowCourt$Day", "hasJudge", "(I)Z"⟩, 12), (⟨"ShadowCourt$Day", "takeStep", "(I)I"⟩, 12), (⟨"ShadowCourt$Day", "stepsLeft", "(I)I"⟩, 12), (⟨"ShadowCourt$Law", "tellMinute", "(I)V"⟩, 9), (⟨"ShadowCourt$Day", "draw", "()I"⟩, 12), (⟨"ShadowCourt$Law", "worthOf", "(II)I"⟩, 9), (⟨"ShadowCourt$Law", "reckon", "(I)I"⟩, 9), (⟨"ShadowCourt$Law", "toldAt", "(I)I"⟩, 9), (⟨"ShadowCourt$Law", "isNight", "(I)Z"⟩, 9), (⟨"ShadowCourt$Clock", "cast", "(LShadowCourt$Day;ZZ)V"⟩, 6), (⟨"ShadowCourt$Shadows", "clear", "()V"⟩, 4)]
theorem lw_r3 : ∀ q ∈ lw_privs_3, lw_okq q := List.forall_mem_cons.mpr ⟨lw_p32, List.forall_mem_cons.mpr ⟨lw_p33, List.forall_mem_cons.mpr ⟨lw_p34, List.forall_mem_cons.mpr ⟨lw_p35, List.forall_mem_cons.mpr ⟨lw_p36, List.forall_mem_cons.mpr ⟨lw_p37, List.forall_mem_cons.mpr ⟨lw_p38, List.forall_mem_cons.mpr ⟨lw_p39, List.forall_mem_cons.mpr ⟨lw_p40, List.forall_mem_cons.mpr ⟨lw_p41, List.forall_mem_cons.mpr ⟨lw_p42, List.forall_mem_cons.mpr ⟨lw_p43, List.forall_mem_cons.mpr ⟨lw_p44, List.forall_mem_cons.mpr ⟨lw_p45, List.forall_mem_cons.mpr ⟨lw_p46, List.forall_mem_cons.mpr ⟨lw_p47, fun _ h => absurd h List.not_mem_nil⟩⟩⟩⟩⟩⟩⟩⟩⟩⟩⟩⟩⟩⟩⟩⟩
theorem lw_p48 : lw_okq (⟨"ShadowCourt$Law", "tellJudge", "(II)V"⟩, 9) := ⟨⟨by decide +kernel, by decide +kernel⟩, List.mem_of_getElem? (i := 77) (by decide +kernel), List.mem_of_getElem? (i := 667) (by decide +kernel), List.mem_of_getElem? (i := 668) (by decide +kernel)⟩
theorem lw_p49 : lw_okq (⟨"ShadowCourt$Shadows", "fall", "(LShadowCourt$Market;III)V"⟩, 4) := ⟨⟨by decide +kernel, by decide +kernel⟩, List.mem_of_getElem? (i := 158) (by decide +kernel), List.mem_of_getElem? (i := 671) (by decide +kernel), List.mem_of_getElem? (i := 672) (by decide +kernel)⟩
theorem lw_p50 : lw_okq (⟨"ShadowCourt$Clock", "castOfLamp", "(LShadowCourt$Day;I)V"⟩, 6) := ⟨⟨by decide +kernel, by decide +kernel⟩, List.mem_of_getElem? (i := 152) (by decide +kernel), List.mem_of_getElem? (i := 677) (by decide +kernel), List.mem_of_getElem? (i := 678) (by decide +kernel)⟩
theorem lw_p51 : lw_okq (⟨"ShadowCourt$Clock", "lineUp", "(LShadowCourt$Day;I)I"⟩, 6) := ⟨⟨by decide +kernel, by decide +kernel⟩, List.mem_of_getElem? (i := 152) (by decide +kernel), List.mem_of_getElem? (i := 686) (by decide +kernel), List.mem_of_getElem? (i := 687) (by decide +kernel)⟩
theorem lw_p52 : lw_okq (⟨"ShadowCourt$Day", "mustServe", "(I)Z"⟩, 12) := ⟨⟨by decide +kernel, by decide +kernel⟩, List.mem_of_getElem? (i := 210) (by decide +kernel), List.mem_of_getElem? (i := 690) (by decide +kernel), List.mem_of_getElem? (i := 691) (by decide +kernel)⟩
theorem lw_p53 : lw_okq (⟨"ShadowCourt$Day", "hasFelon", "(I)Z"⟩, 12) := ⟨⟨by decide +kernel, by decide +kernel⟩, List.mem_of_getElem? (i := 210) (by decide +kernel), List.mem_of_getElem? (i := 694) (by decide +kernel), List.mem_of_getElem? (i := 695) (by decide +kernel)⟩
theorem lw_p54 : lw_okq (⟨"ShadowCourt$Clock", "tellFelon", "(LShadowCourt$Day;I)V"⟩, 6) := ⟨⟨by decide +kernel, by decide +kernel⟩, List.mem_of_getElem? (i := 152) (by decide +kernel), List.mem_of_getElem? (i := 698) (by decide +kernel), List.mem_of_getElem? (i := 699) (by decide +kernel)⟩
theorem lw_p55 : lw_okq (⟨"ShadowCourt$Law", "tellFelon", "(IIIII)V"⟩, 9) := ⟨⟨by decide +kernel, by decide +kernel⟩, List.mem_of_getElem? (i := 77) (by decide +kernel), List.mem_of_getElem? (i := 703) (by decide +kernel), List.mem_of_getElem? (i := 704) (by decide +kernel)⟩
theorem lw_p56 : lw_okq (⟨"ShadowCourt$Clock", "felonsGo", "(LShadowCourt$Day;IZ)V"⟩, 6) := ⟨⟨by decide +kernel, by decide +kernel⟩, List.mem_of_getElem? (i := 152) (by decide +kernel), List.mem_of_getElem? (i := 707) (by decide +kernel), List.mem_of_getElem? (i := 708) (by decide +kernel)⟩
theorem lw_p57 : lw_okq (⟨"ShadowCourt$Clock", "reachOf", "(LShadowCourt$Day;I)I"⟩, 6) := ⟨⟨by decide +kernel, by decide +kernel⟩, List.mem_of_getElem? (i := 152) (by decide +kernel), List.mem_of_getElem? (i := 711) (by decide +kernel), List.mem_of_getElem? (i := 712) (by decide +kernel)⟩
theorem lw_p58 : lw_okq (⟨"ShadowCourt$Clock", "findShadow", "(LShadowCourt$Day;II)I"⟩, 6) := ⟨⟨by decide +kernel, by decide +kernel⟩, List.mem_of_getElem? (i := 152) (by decide +kernel), List.mem_of_getElem? (i := 715) (by decide +kernel), List.mem_of_getElem? (i := 716) (by decide +kernel)⟩
theorem lw_p59 : lw_okq (⟨"ShadowCourt$Market", "stepsBetween", "(II)I"⟩, 5) := ⟨⟨by decide +kernel, by decide +kernel⟩, List.mem_of_getElem? (i := 52) (by decide +kernel), List.mem_of_getElem? (i := 720) (by decide +kernel), List.mem_of_getElem? (i := 721) (by decide +kernel)⟩
theorem lw_p60 : lw_okq (⟨"ShadowCourt$Market", "reckonRow", "([IIZ)V"⟩, 5) := ⟨⟨by decide +kernel, by decide +kernel⟩, List.mem_of_getElem? (i := 52) (by decide +kernel), List.mem_of_getElem? (i := 725) (by decide +kernel), List.mem_of_getElem? (i := 726) (by decide +kernel)⟩
theorem lw_p61 : lw_okq (⟨"ShadowCourt$Shadows", "layersAt", "(I)I"⟩, 4) := ⟨⟨by decide +kernel, by decide +kernel⟩, List.mem_of_getElem? (i := 158) (by decide +kernel), List.mem_of_getElem? (i := 731) (by decide +kernel), List.mem_of_getElem? (i := 732) (by decide +kernel)⟩
theorem lw_p62 : lw_okq (⟨"ShadowCourt", "canBeTried", "(I)Z"⟩, 12) := ⟨⟨by decide +kernel, by decide +kernel⟩, List.mem_of_getElem? (i := 16) (by decide +kernel), List.mem_of_getElem? (i := 740) (by decide +kernel), List.mem_of_getElem? (i := 741) (by decide +kernel)⟩
theorem lw_p63 : lw_okq (⟨"ShadowCourt$Foresight", "copyOfNow", "()LShadowCourt$Day;"⟩, 11) := ⟨⟨by decide +kernel, by decide +kernel⟩, List.mem_of_getElem? (i := 274) (by decide +kernel), List.mem_of_getElem? (i := 746) (by decide +kernel), List.mem_of_getElem? (i := 747) (by decide +kernel)⟩
def lw_privs_4 : List (MethodName × Nat) := [(⟨"ShadowCourt$Law", "tellJudge", "(II)V"⟩, 9), (⟨"ShadowCourt$Shadows", "fall", "(LShadowCourt$Market;III)V"⟩, 4), (⟨"ShadowCourt$Clock", "castOfLamp", "(LShadowCourt$Day;I)V"⟩, 6), (⟨"ShadowCourt$Clock", "lineUp", "(LShadowCourt$Day;I)I"⟩, 6), (⟨"ShadowCourt$Day", "mustServe", "(I)Z"⟩, 12), (⟨"ShadowCourt$Day", "hasFelon", "(I)Z"⟩, 12), (⟨"ShadowCourt$Clock", "tellFelon", "(LShadowCourt$Day;I)V"⟩, 6), (⟨"ShadowCourt$Law", "tellFelon", "(IIIII)V"⟩, 9), (⟨"ShadowCourt$Clock", "felonsGo", "(LShadowCourt$Day;IZ)V"⟩, 6), (⟨"ShadowCourt$Clock", "reachOf", "(LShadowCourt$Day;I)I"⟩, 6), (⟨"ShadowCourt$Clock", "findShadow", "(LShadowCourt$Day;II)I"⟩, 6), (⟨"ShadowCourt$Market", "stepsBetween", "(II)I"⟩, 5), (⟨"ShadowCourt$Market", "reckonRow", "([IIZ)V"⟩, 5), (⟨"ShadowCourt$Shadows", "layersAt", "(I)I"⟩, 4), (⟨"ShadowCourt", "canBeTried", "(I)Z"⟩, 12), (⟨"ShadowCourt$Foresight", "copyOfNow", "()LShadowCourt$Day;"⟩, 11)]
theorem lw_r4 : ∀ q ∈ lw_privs_4, lw_okq q := List.forall_mem_cons.mpr ⟨lw_p48, List.forall_mem_cons.mpr ⟨lw_p49, List.forall_mem_cons.mpr ⟨lw_p50, List.forall_mem_cons.mpr ⟨lw_p51, List.forall_mem_cons.mpr ⟨lw_p52, List.forall_mem_cons.mpr ⟨lw_p53, List.forall_mem_cons.mpr ⟨lw_p54, List.forall_mem_cons.mpr ⟨lw_p55, List.forall_mem_cons.mpr ⟨lw_p56, List.forall_mem_cons.mpr ⟨lw_p57, List.forall_mem_cons.mpr ⟨lw_p58, List.forall_mem_cons.mpr ⟨lw_p59, List.forall_mem_cons.mpr ⟨lw_p60, List.forall_mem_cons.mpr ⟨lw_p61, List.forall_mem_cons.mpr ⟨lw_p62, List.forall_mem_cons.mpr ⟨lw_p63, fun _ h => absurd h List.not_mem_nil⟩⟩⟩⟩⟩⟩⟩⟩⟩⟩⟩⟩⟩⟩⟩⟩
theorem lw_p64 : lw_okq (⟨"ShadowCourt$Day", "copyFrom", "(LShadowCourt$Day;)V"⟩, 12) := ⟨⟨by decide +kernel, by decide +kernel⟩, List.mem_of_getElem? (i := 210) (by decide +kernel), List.mem_of_getElem? (i := 750) (by decide +kernel), List.mem_of_getElem? (i := 751) (by decide +kernel)⟩
theorem lw_p65 : lw_okq (⟨"ShadowCourt$Day", "clearCounts", "()V"⟩, 12) := ⟨⟨by decide +kernel, by decide +kernel⟩, List.mem_of_getElem? (i := 210) (by decide +kernel), List.mem_of_getElem? (i := 754) (by decide +kernel), List.mem_of_getElem? (i := 755) (by decide +kernel)⟩
theorem lw_p66 : lw_okq (⟨"ShadowCourt$Day", "howManyDrowned", "()I"⟩, 12) := ⟨⟨by decide +kernel, by decide +kernel⟩, List.mem_of_getElem? (i := 210) (by decide +kernel), List.mem_of_getElem? (i := 758) (by decide +kernel), List.mem_of_getElem? (i := 759) (by decide +kernel)⟩
theorem lw_p67 : lw_okq (⟨"ShadowCourt$Day", "howManyOweNothing", "()I"⟩, 12) := ⟨⟨by decide +kernel, by decide +kernel⟩, List.mem_of_getElem? (i := 210) (by decide +kernel), List.mem_of_getElem? (i := 762) (by decide +kernel), List.mem_of_getElem? (i := 763) (by decide +kernel)⟩
theorem lw_p68 : lw_okq (⟨"ShadowCourt$Clock", "shadowsAt", "(LShadowCourt$Day;I)I"⟩, 6) := ⟨⟨by decide +kernel, by decide +kernel⟩, List.mem_of_getElem? (i := 152) (by decide +kernel), List.mem_of_getElem? (i := 771) (by decide +kernel), List.mem_of_getElem? (i := 772) (by decide +kernel)⟩
theorem lw_p69 : lw_okq (⟨"ShadowCourt$Clock", "castCloudless", "(LShadowCourt$Day;)V"⟩, 6) := ⟨⟨by decide +kernel, by decide +kernel⟩, List.mem_of_getElem? (i := 152) (by decide +kernel), List.mem_of_getElem? (i := 775) (by decide +kernel), List.mem_of_getElem? (i := 776) (by decide +kernel)⟩
theorem lw_p70 : lw_okq (⟨"ShadowCourt$Crowd", "most", "(LShadowCourt$Day;)I"⟩, 6) := ⟨⟨by decide +kernel, by decide +kernel⟩, List.mem_of_getElem? (i := 321) (by decide +kernel), List.mem_of_getElem? (i := 789) (by decide +kernel), List.mem_of_getElem? (i := 790) (by decide +kernel)⟩
theorem lw_p71 : lw_okq (⟨"ShadowCourt$Crowd", "findsPlace", "(LShadowCourt$Day;I)Z"⟩, 6) := ⟨⟨by decide +kernel, by decide +kernel⟩, List.mem_of_getElem? (i := 321) (by decide +kernel), List.mem_of_getElem? (i := 795) (by decide +kernel), List.mem_of_getElem? (i := 796) (by decide +kernel)⟩
theorem lw_p72 : lw_okq (⟨"ShadowCourt$Crowd", "canGo", "(LShadowCourt$Day;II)Z"⟩, 6) := ⟨⟨by decide +kernel, by decide +kernel⟩, List.mem_of_getElem? (i := 321) (by decide +kernel), List.mem_of_getElem? (i := 799) (by decide +kernel), List.mem_of_getElem? (i := 800) (by decide +kernel)⟩
theorem lw_p73 : lw_okq (⟨"ShadowCourt$Crowd", "handOn", "(I)V"⟩, 6) := ⟨⟨by decide +kernel, by decide +kernel⟩, List.mem_of_getElem? (i := 321) (by decide +kernel), List.mem_of_getElem? (i := 806) (by decide +kernel), List.mem_of_getElem? (i := 807) (by decide +kernel)⟩
theorem lw_p74 : lw_okq (⟨"ShadowCourt$Shadows", "howManyInMore", "()I"⟩, 4) := ⟨⟨by decide +kernel, by decide +kernel⟩, List.mem_of_getElem? (i := 158) (by decide +kernel), List.mem_of_getElem? (i := 810) (by decide +kernel), List.mem_of_getElem? (i := 811) (by decide +kernel)⟩
theorem lw_p75 : lw_okq (⟨"ShadowCourt$Foresight", "fewestSteps", "(III)I"⟩, 11) := ⟨⟨by decide +kernel, by decide +kernel⟩, List.mem_of_getElem? (i := 274) (by decide +kernel), List.mem_of_getElem? (i := 819) (by decide +kernel), List.mem_of_getElem? (i := 820) (by decide +kernel)⟩
theorem lw_p76 : lw_okq (⟨"ShadowCourt$Clock", "walkOn", "(LShadowCourt$Day;)Z"⟩, 6) := ⟨⟨by decide +kernel, by decide +kernel⟩, List.mem_of_getElem? (i := 152) (by decide +kernel), List.mem_of_getElem? (i := 827) (by decide +kernel), List.mem_of_getElem? (i := 828) (by decide +kernel)⟩
theorem lw_p77 : lw_okq (⟨"ShadowCourt$Foresight", "spreadSteps", "([I)V"⟩, 11) := ⟨⟨by decide +kernel, by decide +kernel⟩, List.mem_of_getElem? (i := 274) (by decide +kernel), List.mem_of_getElem? (i := 832) (by decide +kernel), List.mem_of_getElem? (i := 833) (by decide +kernel)⟩
theorem lw_p78 : lw_okq (⟨"ShadowCourt$Foresight", "oneStepMore", "(I)I"⟩, 11) := ⟨⟨by decide +kernel, by decide +kernel⟩, List.mem_of_getElem? (i := 274) (by decide +kernel), List.mem_of_getElem? (i := 837) (by decide +kernel), List.mem_of_getElem? (i := 838) (by decide +kernel)⟩
theorem lw_p79 : lw_okq (⟨"ShadowCourt$Foresight", "settle", "(II)V"⟩, 11) := ⟨⟨by decide +kernel, by decide +kernel⟩, List.mem_of_getElem? (i := 274) (by decide +kernel), List.mem_of_getElem? (i := 843) (by decide +kernel), List.mem_of_getElem? (i := 844) (by decide +kernel)⟩
def lw_privs_5 : List (MethodName × Nat) := [(⟨"ShadowCourt$Day", "copyFrom", "(LShadowCourt$Day;)V"⟩, 12), (⟨"ShadowCourt$Day", "clearCounts", "()V"⟩, 12), (⟨"ShadowCourt$Day", "howManyDrowned", "()I"⟩, 12), (⟨"ShadowCourt$Day", "howManyOweNothing", "()I"⟩, 12), (⟨"ShadowCourt$Clock", "shadowsAt", "(LShadowCourt$Day;I)I"⟩, 6), (⟨"ShadowCourt$Clock", "castCloudless", "(LShadowCourt$Day;)V"⟩, 6), (⟨"ShadowCourt$Crowd", "most", "(LShadowCourt$Day;)I"⟩, 6), (⟨"ShadowCourt$Crowd", "findsPlace", "(LShadowCourt$Day;I)Z"⟩, 6), (⟨"ShadowCourt$Crowd", "canGo", "(LShadowCourt$Day;II)Z"⟩, 6), (⟨"ShadowCourt$Crowd", "handOn", "(I)V"⟩, 6), (⟨"ShadowCourt$Shadows", "howManyInMore", "()I"⟩, 4), (⟨"ShadowCourt$Foresight", "fewestSteps", "(III)I"⟩, 11), (⟨"ShadowCourt$Clock", "walkOn", "(LShadowCourt$Day;)Z"⟩, 6), (⟨"ShadowCourt$Foresight", "spreadSteps", "([I)V"⟩, 11), (⟨"ShadowCourt$Foresight", "oneStepMore", "(I)I"⟩, 11), (⟨"ShadowCourt$Foresight", "settle", "(II)V"⟩, 11)]
theorem lw_r5 : ∀ q ∈ lw_privs_5, lw_okq q := List.forall_mem_cons.mpr ⟨lw_p64, List.forall_mem_cons.mpr ⟨lw_p65, List.forall_mem_cons.mpr ⟨lw_p66, List.forall_mem_cons.mpr ⟨lw_p67, List.forall_mem_cons.mpr ⟨lw_p68, List.forall_mem_cons.mpr ⟨lw_p69, List.forall_mem_cons.mpr ⟨lw_p70, List.forall_mem_cons.mpr ⟨lw_p71, List.forall_mem_cons.mpr ⟨lw_p72, List.forall_mem_cons.mpr ⟨lw_p73, List.forall_mem_cons.mpr ⟨lw_p74, List.forall_mem_cons.mpr ⟨lw_p75, List.forall_mem_cons.mpr ⟨lw_p76, List.forall_mem_cons.mpr ⟨lw_p77, List.forall_mem_cons.mpr ⟨lw_p78, List.forall_mem_cons.mpr ⟨lw_p79, fun _ h => absurd h List.not_mem_nil⟩⟩⟩⟩⟩⟩⟩⟩⟩⟩⟩⟩⟩⟩⟩⟩
theorem lw_p80 : lw_okq (⟨"ShadowCourt$Foresight", "leastOwedWay", "(II)I"⟩, 11) := ⟨⟨by decide +kernel, by decide +kernel⟩, List.mem_of_getElem? (i := 274) (by decide +kernel), List.mem_of_getElem? (i := 852) (by decide +kernel), List.mem_of_getElem? (i := 853) (by decide +kernel)⟩
theorem lw_p81 : lw_okq (⟨"ShadowCourt$Foresight", "stepAlone", "(I)[I"⟩, 11) := ⟨⟨by decide +kernel, by decide +kernel⟩, List.mem_of_getElem? (i := 274) (by decide +kernel), List.mem_of_getElem? (i := 857) (by decide +kernel), List.mem_of_getElem? (i := 858) (by decide +kernel)⟩
theorem lw_p82 : lw_okq (⟨"ShadowCourt$Foresight", "turnToNextWay", "(I)I"⟩, 11) := ⟨⟨by decide +kernel, by decide +kernel⟩, List.mem_of_getElem? (i := 274) (by decide +kernel), List.mem_of_getElem? (i := 863) (by decide +kernel), List.mem_of_getElem? (i := 864) (by decide +kernel)⟩
theorem lw_p83 : lw_okq (⟨"ShadowCourt$Foresight", "bestAhead", "(I)I"⟩, 11) := ⟨⟨by decide +kernel, by decide +kernel⟩, List.mem_of_getElem? (i := 274) (by decide +kernel), List.mem_of_getElem? (i := 871) (by decide +kernel), List.mem_of_getElem? (i := 872) (by decide +kernel)⟩
theorem lw_p84 : lw_okq (⟨"ShadowCourt$Foresight", "countShadedMinutes", "(I)V"⟩, 11) := ⟨⟨by decide +kernel, by decide +kernel⟩, List.mem_of_getElem? (i := 274) (by decide +kernel), List.mem_of_getElem? (i := 880) (by decide +kernel), List.mem_of_getElem? (i := 881) (by decide +kernel)⟩
theorem lw_p85 : lw_okq (⟨"ShadowCourt$Foresight", "howManyNeverShaded", "()I"⟩, 11) := ⟨⟨by decide +kernel, by decide +kernel⟩, List.mem_of_getElem? (i := 274) (by decide +kernel), List.mem_of_getElem? (i := 884) (by decide +kernel), List.mem_of_getElem? (i := 885) (by decide +kernel)⟩
theorem lw_p86 : lw_okq (⟨"ShadowCourt$Foresight", "mostShaded", "()I"⟩, 11) := ⟨⟨by decide +kernel, by decide +kernel⟩, List.mem_of_getElem? (i := 274) (by decide +kernel), List.mem_of_getElem? (i := 889) (by decide +kernel), List.mem_of_getElem? (i := 890) (by decide +kernel)⟩
theorem lw_p87 : lw_okq (⟨"ShadowCourt", "isFreeForLamp", "(I)Z"⟩, 12) := ⟨⟨by decide +kernel, by decide +kernel⟩, List.mem_of_getElem? (i := 16) (by decide +kernel), List.mem_of_getElem? (i := 897) (by decide +kernel), List.mem_of_getElem? (i := 898) (by decide +kernel)⟩
theorem lw_p88 : lw_okq (⟨"ShadowCourt$Clock", "spotsInLampShadows", "(LShadowCourt$Day;I)I"⟩, 6) := ⟨⟨by decide +kernel, by decide +kernel⟩, List.mem_of_getElem? (i := 152) (by decide +kernel), List.mem_of_getElem? (i := 903) (by decide +kernel), List.mem_of_getElem? (i := 904) (by decide +kernel)⟩
theorem lw_p89 : lw_okq (⟨"ShadowCourt", "hasBytesBeyond", "(III)Z"⟩, 12) := ⟨⟨by decide +kernel, by decide +kernel⟩, List.mem_of_getElem? (i := 16) (by decide +kernel), List.mem_of_getElem? (i := 912) (by decide +kernel), List.mem_of_getElem? (i := 913) (by decide +kernel)⟩
theorem lw_p90 : lw_okq (⟨"ShadowCourt$Tape", "byteAt", "(I)I"⟩, 5) := ⟨⟨by decide +kernel, by decide +kernel⟩, List.mem_of_getElem? (i := 24) (by decide +kernel), List.mem_of_getElem? (i := 916) (by decide +kernel), List.mem_of_getElem? (i := 917) (by decide +kernel)⟩
theorem lw_p91 : lw_okq (⟨"ShadowCourt", "printMakers", "(I)I"⟩, 12) := ⟨⟨by decide +kernel, by decide +kernel⟩, List.mem_of_getElem? (i := 16) (by decide +kernel), List.mem_of_getElem? (i := 920) (by decide +kernel), List.mem_of_getElem? (i := 921) (by decide +kernel)⟩
theorem lw_p92 : lw_okq (⟨"ShadowCourt", "brokenPrint", "(I)I"⟩, 12) := ⟨⟨by decide +kernel, by decide +kernel⟩, List.mem_of_getElem? (i := 16) (by decide +kernel), List.mem_of_getElem? (i := 924) (by decide +kernel), List.mem_of_getElem? (i := 925) (by decide +kernel)⟩
theorem lw_p93 : lw_okq (⟨"ShadowCourt$Market", "isDryWalk", "(II)Z"⟩, 5) := ⟨⟨by decide +kernel, by decide +kernel⟩, List.mem_of_getElem? (i := 52) (by decide +kernel), List.mem_of_getElem? (i := 928) (by decide +kernel), List.mem_of_getElem? (i := 929) (by decide +kernel)⟩
theorem lw_p94 : lw_okq (⟨"ShadowCourt", "printStarters", "()I"⟩, 12) := ⟨⟨by decide +kernel, by decide +kernel⟩, List.mem_of_getElem? (i := 16) (by decide +kernel), List.mem_of_getElem? (i := 932) (by decide +kernel), List.mem_of_getElem? (i := 933) (by decide +kernel)⟩
theorem lw_p95 : lw_okq (⟨"ShadowCourt", "printsFailAt", "(I)I"⟩, 12) := ⟨⟨by decide +kernel, by decide +kernel⟩, List.mem_of_getElem? (i := 16) (by decide +kernel), List.mem_of_getElem? (i := 936) (by decide +kernel), List.mem_of_getElem? (i := 937) (by decide +kernel)⟩
def lw_privs_6 : List (MethodName × Nat) := [(⟨"ShadowCourt$Foresight", "leastOwedWay", "(II)I"⟩, 11), (⟨"ShadowCourt$Foresight", "stepAlone", "(I)[I"⟩, 11), (⟨"ShadowCourt$Foresight", "turnToNextWay", "(I)I"⟩, 11), (⟨"ShadowCourt$Foresight", "bestAhead", "(I)I"⟩, 11), (⟨"ShadowCourt$Foresight", "countShadedMinutes", "(I)V"⟩, 11), (⟨"ShadowCourt$Foresight", "howManyNeverShaded", "()I"⟩, 11), (⟨"ShadowCourt$Foresight", "mostShaded", "()I"⟩, 11), (⟨"ShadowCourt", "isFreeForLamp", "(I)Z"⟩, 12), (⟨"ShadowCourt$Clock", "spotsInLampShadows", "(LShadowCourt$Day;I)I"⟩, 6), (⟨"ShadowCourt", "hasBytesBeyond", "(III)Z"⟩, 12), (⟨"ShadowCourt$Tape", "byteAt", "(I)I"⟩, 5), (⟨"ShadowCourt", "printMakers", "(I)I"⟩, 12), (⟨"ShadowCourt", "brokenPrint", "(I)I"⟩, 12), (⟨"ShadowCourt$Market", "isDryWalk", "(II)Z"⟩, 5), (⟨"ShadowCourt", "printStarters", "()I"⟩, 12), (⟨"ShadowCourt", "printsFailAt", "(I)I"⟩, 12)]
theorem lw_r6 : ∀ q ∈ lw_privs_6, lw_okq q := List.forall_mem_cons.mpr ⟨lw_p80, List.forall_mem_cons.mpr ⟨lw_p81, List.forall_mem_cons.mpr ⟨lw_p82, List.forall_mem_cons.mpr ⟨lw_p83, List.forall_mem_cons.mpr ⟨lw_p84, List.forall_mem_cons.mpr ⟨lw_p85, List.forall_mem_cons.mpr ⟨lw_p86, List.forall_mem_cons.mpr ⟨lw_p87, List.forall_mem_cons.mpr ⟨lw_p88, List.forall_mem_cons.mpr ⟨lw_p89, List.forall_mem_cons.mpr ⟨lw_p90, List.forall_mem_cons.mpr ⟨lw_p91, List.forall_mem_cons.mpr ⟨lw_p92, List.forall_mem_cons.mpr ⟨lw_p93, List.forall_mem_cons.mpr ⟨lw_p94, List.forall_mem_cons.mpr ⟨lw_p95, fun _ h => absurd h List.not_mem_nil⟩⟩⟩⟩⟩⟩⟩⟩⟩⟩⟩⟩⟩⟩⟩⟩
theorem lw_p96 : lw_okq (⟨"ShadowCourt", "cloudySets", "(III)I"⟩, 12) := ⟨⟨by decide +kernel, by decide +kernel⟩, List.mem_of_getElem? (i := 16) (by decide +kernel), List.mem_of_getElem? (i := 947) (by decide +kernel), List.mem_of_getElem? (i := 948) (by decide +kernel)⟩
theorem lw_p97 : lw_okq (⟨"ShadowCourt", "servedOutside", "(II)I"⟩, 12) := ⟨⟨by decide +kernel, by decide +kernel⟩, List.mem_of_getElem? (i := 16) (by decide +kernel), List.mem_of_getElem? (i := 951) (by decide +kernel), List.mem_of_getElem? (i := 952) (by decide +kernel)⟩
theorem lw_p98 : lw_okq (⟨"ShadowCourt", "areAllPlaces", "(II)Z"⟩, 12) := ⟨⟨by decide +kernel, by decide +kernel⟩, List.mem_of_getElem? (i := 16) (by decide +kernel), List.mem_of_getElem? (i := 959) (by decide +kernel), List.mem_of_getElem? (i := 960) (by decide +kernel)⟩
theorem lw_p99 : lw_okq (⟨"ShadowCourt", "sentencesTogether", "(III)I"⟩, 12) := ⟨⟨by decide +kernel, by decide +kernel⟩, List.mem_of_getElem? (i := 16) (by decide +kernel), List.mem_of_getElem? (i := 963) (by decide +kernel), List.mem_of_getElem? (i := 964) (by decide +kernel)⟩
theorem lw_p100 : lw_okq (⟨"ShadowCourt", "groupSentences", "(II)V"⟩, 12) := ⟨⟨by decide +kernel, by decide +kernel⟩, List.mem_of_getElem? (i := 16) (by decide +kernel), List.mem_of_getElem? (i := 967) (by decide +kernel), List.mem_of_getElem? (i := 968) (by decide +kernel)⟩
theorem lw_p101 : lw_okq (⟨"ShadowCourt", "joinGroups", "(III)V"⟩, 12) := ⟨⟨by decide +kernel, by decide +kernel⟩, List.mem_of_getElem? (i := 16) (by decide +kernel), List.mem_of_getElem? (i := 971) (by decide +kernel), List.mem_of_getElem? (i := 972) (by decide +kernel)⟩
theorem lw_p102 : lw_okq (⟨"ShadowCourt", "longestOfGroup", "(II)I"⟩, 12) := ⟨⟨by decide +kernel, by decide +kernel⟩, List.mem_of_getElem? (i := 16) (by decide +kernel), List.mem_of_getElem? (i := 975) (by decide +kernel), List.mem_of_getElem? (i := 976) (by decide +kernel)⟩
theorem lw_p103 : lw_okq (⟨"ShadowCourt$Tape", "numberAt", "(I)I"⟩, 5) := ⟨⟨by decide +kernel, by decide +kernel⟩, List.mem_of_getElem? (i := 24) (by decide +kernel), List.mem_of_getElem? (i := 1001) (by decide +kernel), List.mem_of_getElem? (i := 1002) (by decide +kernel)⟩
theorem lw_p104 : lw_okq (⟨"ShadowCourtModel", "types", "(I)V"⟩, 61) := ⟨⟨by decide +kernel, by decide +kernel⟩, List.mem_of_getElem? (i := 1013) (by decide +kernel), List.mem_of_getElem? (i := 1208) (by decide +kernel), List.mem_of_getElem? (i := 1209) (by decide +kernel)⟩
theorem lw_p105 : lw_okq (⟨"ShadowCourtModel", "readsRow", "(I)Z"⟩, 61) := ⟨⟨by decide +kernel, by decide +kernel⟩, List.mem_of_getElem? (i := 1013) (by decide +kernel), List.mem_of_getElem? (i := 1219) (by decide +kernel), List.mem_of_getElem? (i := 1220) (by decide +kernel)⟩
theorem lw_p106 : lw_okq (⟨"ShadowCourtModel", "here", "()I"⟩, 61) := ⟨⟨by decide +kernel, by decide +kernel⟩, List.mem_of_getElem? (i := 1013) (by decide +kernel), List.mem_of_getElem? (i := 1223) (by decide +kernel), List.mem_of_getElem? (i := 1224) (by decide +kernel)⟩
theorem lw_p107 : lw_okq (⟨"ShadowCourtModel", "wrongAt", "(II)Z"⟩, 61) := ⟨⟨by decide +kernel, by decide +kernel⟩, List.mem_of_getElem? (i := 1013) (by decide +kernel), List.mem_of_getElem? (i := 1233) (by decide +kernel), List.mem_of_getElem? (i := 1234) (by decide +kernel)⟩
theorem lw_p108 : lw_okq (⟨"ShadowCourtModel", "takes", "(I)Z"⟩, 61) := ⟨⟨by decide +kernel, by decide +kernel⟩, List.mem_of_getElem? (i := 1013) (by decide +kernel), List.mem_of_getElem? (i := 1237) (by decide +kernel), List.mem_of_getElem? (i := 1238) (by decide +kernel)⟩
theorem lw_p109 : lw_okq (⟨"ShadowCourtModel", "isJudge", "(I)Z"⟩, 61) := ⟨⟨by decide +kernel, by decide +kernel⟩, List.mem_of_getElem? (i := 1013) (by decide +kernel), List.mem_of_getElem? (i := 1241) (by decide +kernel), List.mem_of_getElem? (i := 1242) (by decide +kernel)⟩
theorem lw_p110 : lw_okq (⟨"ShadowCourtModel", "isGround", "(I)Z"⟩, 61) := ⟨⟨by decide +kernel, by decide +kernel⟩, List.mem_of_getElem? (i := 1013) (by decide +kernel), List.mem_of_getElem? (i := 1251) (by decide +kernel), List.mem_of_getElem? (i := 1252) (by decide +kernel)⟩
theorem lw_p111 : lw_okq (⟨"ShadowCourtModel", "isFelon", "(I)Z"⟩, 61) := ⟨⟨by decide +kernel, by decide +kernel⟩, List.mem_of_getElem? (i := 1013) (by decide +kernel), List.mem_of_getElem? (i := 1255) (by decide +kernel), List.mem_of_getElem? (i := 1256) (by decide +kernel)⟩
def lw_privs_7 : List (MethodName × Nat) := [(⟨"ShadowCourt", "cloudySets", "(III)I"⟩, 12), (⟨"ShadowCourt", "servedOutside", "(II)I"⟩, 12), (⟨"ShadowCourt", "areAllPlaces", "(II)Z"⟩, 12), (⟨"ShadowCourt", "sentencesTogether", "(III)I"⟩, 12), (⟨"ShadowCourt", "groupSentences", "(II)V"⟩, 12), (⟨"ShadowCourt", "joinGroups", "(III)V"⟩, 12), (⟨"ShadowCourt", "longestOfGroup", "(II)I"⟩, 12), (⟨"ShadowCourt$Tape", "numberAt", "(I)I"⟩, 5), (⟨"ShadowCourtModel", "types", "(I)V"⟩, 61), (⟨"ShadowCourtModel", "readsRow", "(I)Z"⟩, 61), (⟨"ShadowCourtModel", "here", "()I"⟩, 61), (⟨"ShadowCourtModel", "wrongAt", "(II)Z"⟩, 61), (⟨"ShadowCourtModel", "takes", "(I)Z"⟩, 61), (⟨"ShadowCourtModel", "isJudge", "(I)Z"⟩, 61), (⟨"ShadowCourtModel", "isGround", "(I)Z"⟩, 61), (⟨"ShadowCourtModel", "isFelon", "(I)Z"⟩, 61)]
theorem lw_r7 : ∀ q ∈ lw_privs_7, lw_okq q := List.forall_mem_cons.mpr ⟨lw_p96, List.forall_mem_cons.mpr ⟨lw_p97, List.forall_mem_cons.mpr ⟨lw_p98, List.forall_mem_cons.mpr ⟨lw_p99, List.forall_mem_cons.mpr ⟨lw_p100, List.forall_mem_cons.mpr ⟨lw_p101, List.forall_mem_cons.mpr ⟨lw_p102, List.forall_mem_cons.mpr ⟨lw_p103, List.forall_mem_cons.mpr ⟨lw_p104, List.forall_mem_cons.mpr ⟨lw_p105, List.forall_mem_cons.mpr ⟨lw_p106, List.forall_mem_cons.mpr ⟨lw_p107, List.forall_mem_cons.mpr ⟨lw_p108, List.forall_mem_cons.mpr ⟨lw_p109, List.forall_mem_cons.mpr ⟨lw_p110, List.forall_mem_cons.mpr ⟨lw_p111, fun _ h => absurd h List.not_mem_nil⟩⟩⟩⟩⟩⟩⟩⟩⟩⟩⟩⟩⟩⟩⟩⟩
theorem lw_p112 : lw_okq (⟨"ShadowCourtModel", "readsStep", "()Z"⟩, 61) := ⟨⟨by decide +kernel, by decide +kernel⟩, List.mem_of_getElem? (i := 1013) (by decide +kernel), List.mem_of_getElem? (i := 1278) (by decide +kernel), List.mem_of_getElem? (i := 1279) (by decide +kernel)⟩
theorem lw_p113 : lw_okq (⟨"ShadowCourtModel", "readsTimes", "()V"⟩, 61) := ⟨⟨by decide +kernel, by decide +kernel⟩, List.mem_of_getElem? (i := 1013) (by decide +kernel), List.mem_of_getElem? (i := 1282) (by decide +kernel), List.mem_of_getElem? (i := 1283) (by decide +kernel)⟩
theorem lw_p114 : lw_okq (⟨"ShadowCourtModel", "repeats", "(III)Z"⟩, 61) := ⟨⟨by decide +kernel, by decide +kernel⟩, List.mem_of_getElem? (i := 1013) (by decide +kernel), List.mem_of_getElem? (i := 1289) (by decide +kernel), List.mem_of_getElem? (i := 1290) (by decide +kernel)⟩
theorem lw_p115 : lw_okq (⟨"ShadowCourtModel", "readsClause", "()Z"⟩, 61) := ⟨⟨by decide +kernel, by decide +kernel⟩, List.mem_of_getElem? (i := 1013) (by decide +kernel), List.mem_of_getElem? (i := 1297) (by decide +kernel), List.mem_of_getElem? (i := 1298) (by decide +kernel)⟩
theorem lw_p116 : lw_okq (⟨"ShadowCourtModel", "readsSum", "()Z"⟩, 61) := ⟨⟨by decide +kernel, by decide +kernel⟩, List.mem_of_getElem? (i := 1013) (by decide +kernel), List.mem_of_getElem? (i := 1304) (by decide +kernel), List.mem_of_getElem? (i := 1305) (by decide +kernel)⟩
theorem lw_p117 : lw_okq (⟨"ShadowCourtModel", "readsFactor", "()Z"⟩, 61) := ⟨⟨by decide +kernel, by decide +kernel⟩, List.mem_of_getElem? (i := 1013) (by decide +kernel), List.mem_of_getElem? (i := 1308) (by decide +kernel), List.mem_of_getElem? (i := 1309) (by decide +kernel)⟩
theorem lw_p118 : lw_okq (⟨"ShadowCourtModel", "opens", "(I)Z"⟩, 61) := ⟨⟨by decide +kernel, by decide +kernel⟩, List.mem_of_getElem? (i := 1013) (by decide +kernel), List.mem_of_getElem? (i := 1312) (by decide +kernel), List.mem_of_getElem? (i := 1313) (by decide +kernel)⟩
theorem lw_p119 : lw_okq (⟨"ShadowCourtModel", "isDigit", "()Z"⟩, 61) := ⟨⟨by decide +kernel, by decide +kernel⟩, List.mem_of_getElem? (i := 1013) (by decide +kernel), List.mem_of_getElem? (i := 1317) (by decide +kernel), List.mem_of_getElem? (i := 1318) (by decide +kernel)⟩
theorem lw_p120 : lw_okq (⟨"ShadowCourtModel", "readsNumber", "()Z"⟩, 61) := ⟨⟨by decide +kernel, by decide +kernel⟩, List.mem_of_getElem? (i := 1013) (by decide +kernel), List.mem_of_getElem? (i := 1321) (by decide +kernel), List.mem_of_getElem? (i := 1322) (by decide +kernel)⟩
theorem lw_p121 : lw_okq (⟨"ShadowCourtModel", "notes", "(II)V"⟩, 61) := ⟨⟨by decide +kernel, by decide +kernel⟩, List.mem_of_getElem? (i := 1013) (by decide +kernel), List.mem_of_getElem? (i := 1325) (by decide +kernel), List.mem_of_getElem? (i := 1326) (by decide +kernel)⟩
theorem lw_p122 : lw_okq (⟨"ShadowCourtModel", "closesSums", "(Z)V"⟩, 61) := ⟨⟨by decide +kernel, by decide +kernel⟩, List.mem_of_getElem? (i := 1013) (by decide +kernel), List.mem_of_getElem? (i := 1335) (by decide +kernel), List.mem_of_getElem? (i := 1336) (by decide +kernel)⟩
theorem lw_p123 : lw_okq (⟨"ShadowCourtModel", "waitTop", "()I"⟩, 61) := ⟨⟨by decide +kernel, by decide +kernel⟩, List.mem_of_getElem? (i := 1013) (by decide +kernel), List.mem_of_getElem? (i := 1339) (by decide +kernel), List.mem_of_getElem? (i := 1340) (by decide +kernel)⟩
theorem lw_p124 : lw_okq (⟨"ShadowCourtModel", "hasOpenSum", "(I)Z"⟩, 61) := ⟨⟨by decide +kernel, by decide +kernel⟩, List.mem_of_getElem? (i := 1013) (by decide +kernel), List.mem_of_getElem? (i := 1343) (by decide +kernel), List.mem_of_getElem? (i := 1344) (by decide +kernel)⟩
theorem lw_p125 : lw_okq (⟨"ShadowCourtModel", "readsCondition", "()Z"⟩, 61) := ⟨⟨by decide +kernel, by decide +kernel⟩, List.mem_of_getElem? (i := 1013) (by decide +kernel), List.mem_of_getElem? (i := 1347) (by decide +kernel), List.mem_of_getElem? (i := 1348) (by decide +kernel)⟩
theorem lw_p126 : lw_okq (⟨"ShadowCourtModel", "readsCompared", "()Z"⟩, 61) := ⟨⟨by decide +kernel, by decide +kernel⟩, List.mem_of_getElem? (i := 1013) (by decide +kernel), List.mem_of_getElem? (i := 1351) (by decide +kernel), List.mem_of_getElem? (i := 1352) (by decide +kernel)⟩
theorem lw_p127 : lw_okq (⟨"ShadowCourtModel", "endsPiece", "()V"⟩, 61) := ⟨⟨by decide +kernel, by decide +kernel⟩, List.mem_of_getElem? (i := 1013) (by decide +kernel), List.mem_of_getElem? (i := 1355) (by decide +kernel), List.mem_of_getElem? (i := 1356) (by decide +kernel)⟩
def lw_privs_8 : List (MethodName × Nat) := [(⟨"ShadowCourtModel", "readsStep", "()Z"⟩, 61), (⟨"ShadowCourtModel", "readsTimes", "()V"⟩, 61), (⟨"ShadowCourtModel", "repeats", "(III)Z"⟩, 61), (⟨"ShadowCourtModel", "readsClause", "()Z"⟩, 61), (⟨"ShadowCourtModel", "readsSum", "()Z"⟩, 61), (⟨"ShadowCourtModel", "readsFactor", "()Z"⟩, 61), (⟨"ShadowCourtModel", "opens", "(I)Z"⟩, 61), (⟨"ShadowCourtModel", "isDigit", "()Z"⟩, 61), (⟨"ShadowCourtModel", "readsNumber", "()Z"⟩, 61), (⟨"ShadowCourtModel", "notes", "(II)V"⟩, 61), (⟨"ShadowCourtModel", "closesSums", "(Z)V"⟩, 61), (⟨"ShadowCourtModel", "waitTop", "()I"⟩, 61), (⟨"ShadowCourtModel", "hasOpenSum", "(I)Z"⟩, 61), (⟨"ShadowCourtModel", "readsCondition", "()Z"⟩, 61), (⟨"ShadowCourtModel", "readsCompared", "()Z"⟩, 61), (⟨"ShadowCourtModel", "endsPiece", "()V"⟩, 61)]
theorem lw_r8 : ∀ q ∈ lw_privs_8, lw_okq q := List.forall_mem_cons.mpr ⟨lw_p112, List.forall_mem_cons.mpr ⟨lw_p113, List.forall_mem_cons.mpr ⟨lw_p114, List.forall_mem_cons.mpr ⟨lw_p115, List.forall_mem_cons.mpr ⟨lw_p116, List.forall_mem_cons.mpr ⟨lw_p117, List.forall_mem_cons.mpr ⟨lw_p118, List.forall_mem_cons.mpr ⟨lw_p119, List.forall_mem_cons.mpr ⟨lw_p120, List.forall_mem_cons.mpr ⟨lw_p121, List.forall_mem_cons.mpr ⟨lw_p122, List.forall_mem_cons.mpr ⟨lw_p123, List.forall_mem_cons.mpr ⟨lw_p124, List.forall_mem_cons.mpr ⟨lw_p125, List.forall_mem_cons.mpr ⟨lw_p126, List.forall_mem_cons.mpr ⟨lw_p127, fun _ h => absurd h List.not_mem_nil⟩⟩⟩⟩⟩⟩⟩⟩⟩⟩⟩⟩⟩⟩⟩⟩
theorem lw_p128 : lw_okq (⟨"ShadowCourtModel", "lands", "(Z)V"⟩, 61) := ⟨⟨by decide +kernel, by decide +kernel⟩, List.mem_of_getElem? (i := 1013) (by decide +kernel), List.mem_of_getElem? (i := 1359) (by decide +kernel), List.mem_of_getElem? (i := 1360) (by decide +kernel)⟩
theorem lw_p129 : lw_okq (⟨"ShadowCourtModel", "jumps", "(I)V"⟩, 61) := ⟨⟨by decide +kernel, by decide +kernel⟩, List.mem_of_getElem? (i := 1013) (by decide +kernel), List.mem_of_getElem? (i := 1363) (by decide +kernel), List.mem_of_getElem? (i := 1364) (by decide +kernel)⟩
theorem lw_p130 : lw_okq (⟨"ShadowCourtModel", "minutesGo", "(I)V"⟩, 61) := ⟨⟨by decide +kernel, by decide +kernel⟩, List.mem_of_getElem? (i := 1013) (by decide +kernel), List.mem_of_getElem? (i := 1371) (by decide +kernel), List.mem_of_getElem? (i := 1372) (by decide +kernel)⟩
theorem lw_p131 : lw_okq (⟨"ShadowCourtModel", "begins", "()V"⟩, 61) := ⟨⟨by decide +kernel, by decide +kernel⟩, List.mem_of_getElem? (i := 1013) (by decide +kernel), List.mem_of_getElem? (i := 1375) (by decide +kernel), List.mem_of_getElem? (i := 1376) (by decide +kernel)⟩
theorem lw_p132 : lw_okq (⟨"ShadowCourtModel", "walksOn", "(I)V"⟩, 61) := ⟨⟨by decide +kernel, by decide +kernel⟩, List.mem_of_getElem? (i := 1013) (by decide +kernel), List.mem_of_getElem? (i := 1379) (by decide +kernel), List.mem_of_getElem? (i := 1380) (by decide +kernel)⟩
theorem lw_p133 : lw_okq (⟨"ShadowCourtModel", "steps", "(II)V"⟩, 61) := ⟨⟨by decide +kernel, by decide +kernel⟩, List.mem_of_getElem? (i := 1013) (by decide +kernel), List.mem_of_getElem? (i := 1383) (by decide +kernel), List.mem_of_getElem? (i := 1384) (by decide +kernel)⟩
theorem lw_p134 : lw_okq (⟨"ShadowCourtModel", "shadesGo", "()V"⟩, 61) := ⟨⟨by decide +kernel, by decide +kernel⟩, List.mem_of_getElem? (i := 1013) (by decide +kernel), List.mem_of_getElem? (i := 1396) (by decide +kernel), List.mem_of_getElem? (i := 1397) (by decide +kernel)⟩
theorem lw_p135 : lw_okq (⟨"ShadowCourtModel", "draws", "()I"⟩, 61) := ⟨⟨by decide +kernel, by decide +kernel⟩, List.mem_of_getElem? (i := 1013) (by decide +kernel), List.mem_of_getElem? (i := 1400) (by decide +kernel), List.mem_of_getElem? (i := 1401) (by decide +kernel)⟩
theorem lw_p136 : lw_okq (⟨"ShadowCourtModel", "feels", "(I)V"⟩, 61) := ⟨⟨by decide +kernel, by decide +kernel⟩, List.mem_of_getElem? (i := 1013) (by decide +kernel), List.mem_of_getElem? (i := 1405) (by decide +kernel), List.mem_of_getElem? (i := 1406) (by decide +kernel)⟩
theorem lw_p137 : lw_okq (⟨"ShadowCourtModel", "byLaw", "(II)I"⟩, 61) := ⟨⟨by decide +kernel, by decide +kernel⟩, List.mem_of_getElem? (i := 1013) (by decide +kernel), List.mem_of_getElem? (i := 1409) (by decide +kernel), List.mem_of_getElem? (i := 1410) (by decide +kernel)⟩
theorem lw_p138 : lw_okq (⟨"ShadowCourtModel", "comesTo", "(II)I"⟩, 61) := ⟨⟨by decide +kernel, by decide +kernel⟩, List.mem_of_getElem? (i := 1013) (by decide +kernel), List.mem_of_getElem? (i := 1413) (by decide +kernel), List.mem_of_getElem? (i := 1414) (by decide +kernel)⟩
theorem lw_p139 : lw_okq (⟨"ShadowCourtModel", "laysShades", "(IZ)V"⟩, 61) := ⟨⟨by decide +kernel, by decide +kernel⟩, List.mem_of_getElem? (i := 1013) (by decide +kernel), List.mem_of_getElem? (i := 1420) (by decide +kernel), List.mem_of_getElem? (i := 1421) (by decide +kernel)⟩
theorem lw_p140 : lw_okq (⟨"ShadowCourtModel", "bares", "()V"⟩, 61) := ⟨⟨by decide +kernel, by decide +kernel⟩, List.mem_of_getElem? (i := 1013) (by decide +kernel), List.mem_of_getElem? (i := 1424) (by decide +kernel), List.mem_of_getElem? (i := 1425) (by decide +kernel)⟩
theorem lw_p141 : lw_okq (⟨"ShadowCourtModel", "fallsOf", "(II)V"⟩, 61) := ⟨⟨by decide +kernel, by decide +kernel⟩, List.mem_of_getElem? (i := 1013) (by decide +kernel), List.mem_of_getElem? (i := 1428) (by decide +kernel), List.mem_of_getElem? (i := 1429) (by decide +kernel)⟩
theorem lw_p142 : lw_okq (⟨"ShadowCourtModel", "falls", "(III)V"⟩, 61) := ⟨⟨by decide +kernel, by decide +kernel⟩, List.mem_of_getElem? (i := 1013) (by decide +kernel), List.mem_of_getElem? (i := 1432) (by decide +kernel), List.mem_of_getElem? (i := 1433) (by decide +kernel)⟩
theorem lw_p143 : lw_okq (⟨"ShadowCourtModel", "isNight", "(I)Z"⟩, 61) := ⟨⟨by decide +kernel, by decide +kernel⟩, List.mem_of_getElem? (i := 1013) (by decide +kernel), List.mem_of_getElem? (i := 1436) (by decide +kernel), List.mem_of_getElem? (i := 1437) (by decide +kernel)⟩
def lw_privs_9 : List (MethodName × Nat) := [(⟨"ShadowCourtModel", "lands", "(Z)V"⟩, 61), (⟨"ShadowCourtModel", "jumps", "(I)V"⟩, 61), (⟨"ShadowCourtModel", "minutesGo", "(I)V"⟩, 61), (⟨"ShadowCourtModel", "begins", "()V"⟩, 61), (⟨"ShadowCourtModel", "walksOn", "(I)V"⟩, 61), (⟨"ShadowCourtModel", "steps", "(II)V"⟩, 61), (⟨"ShadowCourtModel", "shadesGo", "()V"⟩, 61), (⟨"ShadowCourtModel", "draws", "()I"⟩, 61), (⟨"ShadowCourtModel", "feels", "(I)V"⟩, 61), (⟨"ShadowCourtModel", "byLaw", "(II)I"⟩, 61), (⟨"ShadowCourtModel", "comesTo", "(II)I"⟩, 61), (⟨"ShadowCourtModel", "laysShades", "(IZ)V"⟩, 61), (⟨"ShadowCourtModel", "bares", "()V"⟩, 61), (⟨"ShadowCourtModel", "fallsOf", "(II)V"⟩, 61), (⟨"ShadowCourtModel", "falls", "(III)V"⟩, 61), (⟨"ShadowCourtModel", "isNight", "(I)Z"⟩, 61)]
theorem lw_r9 : ∀ q ∈ lw_privs_9, lw_okq q := List.forall_mem_cons.mpr ⟨lw_p128, List.forall_mem_cons.mpr ⟨lw_p129, List.forall_mem_cons.mpr ⟨lw_p130, List.forall_mem_cons.mpr ⟨lw_p131, List.forall_mem_cons.mpr ⟨lw_p132, List.forall_mem_cons.mpr ⟨lw_p133, List.forall_mem_cons.mpr ⟨lw_p134, List.forall_mem_cons.mpr ⟨lw_p135, List.forall_mem_cons.mpr ⟨lw_p136, List.forall_mem_cons.mpr ⟨lw_p137, List.forall_mem_cons.mpr ⟨lw_p138, List.forall_mem_cons.mpr ⟨lw_p139, List.forall_mem_cons.mpr ⟨lw_p140, List.forall_mem_cons.mpr ⟨lw_p141, List.forall_mem_cons.mpr ⟨lw_p142, List.forall_mem_cons.mpr ⟨lw_p143, fun _ h => absurd h List.not_mem_nil⟩⟩⟩⟩⟩⟩⟩⟩⟩⟩⟩⟩⟩⟩⟩⟩
theorem lw_p144 : lw_okq (⟨"ShadowCourtModel", "fallsByLamps", "()V"⟩, 61) := ⟨⟨by decide +kernel, by decide +kernel⟩, List.mem_of_getElem? (i := 1013) (by decide +kernel), List.mem_of_getElem? (i := 1440) (by decide +kernel), List.mem_of_getElem? (i := 1441) (by decide +kernel)⟩
theorem lw_p145 : lw_okq (⟨"ShadowCourtModel", "fallsBehind", "(II)V"⟩, 61) := ⟨⟨by decide +kernel, by decide +kernel⟩, List.mem_of_getElem? (i := 1013) (by decide +kernel), List.mem_of_getElem? (i := 1444) (by decide +kernel), List.mem_of_getElem? (i := 1445) (by decide +kernel)⟩
theorem lw_p146 : lw_okq (⟨"ShadowCourtModel", "laysOrder", "()I"⟩, 61) := ⟨⟨by decide +kernel, by decide +kernel⟩, List.mem_of_getElem? (i := 1013) (by decide +kernel), List.mem_of_getElem? (i := 1448) (by decide +kernel), List.mem_of_getElem? (i := 1449) (by decide +kernel)⟩
theorem lw_p147 : lw_okq (⟨"ShadowCourtModel", "owes", "(I)Z"⟩, 61) := ⟨⟨by decide +kernel, by decide +kernel⟩, List.mem_of_getElem? (i := 1013) (by decide +kernel), List.mem_of_getElem? (i := 1452) (by decide +kernel), List.mem_of_getElem? (i := 1453) (by decide +kernel)⟩
theorem lw_p148 : lw_okq (⟨"ShadowCourtModel", "byFelon", "(III)I"⟩, 61) := ⟨⟨by decide +kernel, by decide +kernel⟩, List.mem_of_getElem? (i := 1013) (by decide +kernel), List.mem_of_getElem? (i := 1457) (by decide +kernel), List.mem_of_getElem? (i := 1458) (by decide +kernel)⟩
theorem lw_p149 : lw_okq (⟨"ShadowCourtModel", "servesOf", "(IZ)V"⟩, 61) := ⟨⟨by decide +kernel, by decide +kernel⟩, List.mem_of_getElem? (i := 1013) (by decide +kernel), List.mem_of_getElem? (i := 1461) (by decide +kernel), List.mem_of_getElem? (i := 1462) (by decide +kernel)⟩
theorem lw_p150 : lw_okq (⟨"ShadowCourtModel", "findsFor", "(I)I"⟩, 61) := ⟨⟨by decide +kernel, by decide +kernel⟩, List.mem_of_getElem? (i := 1013) (by decide +kernel), List.mem_of_getElem? (i := 1465) (by decide +kernel), List.mem_of_getElem? (i := 1466) (by decide +kernel)⟩
theorem lw_p151 : lw_okq (⟨"ShadowCourtModel", "laysCosts", "(IIZ)V"⟩, 61) := ⟨⟨by decide +kernel, by decide +kernel⟩, List.mem_of_getElem? (i := 1013) (by decide +kernel), List.mem_of_getElem? (i := 1469) (by decide +kernel), List.mem_of_getElem? (i := 1470) (by decide +kernel)⟩
theorem lw_p152 : lw_okq (⟨"ShadowCourtModel", "freeMany", "()I"⟩, 61) := ⟨⟨by decide +kernel, by decide +kernel⟩, List.mem_of_getElem? (i := 1013) (by decide +kernel), List.mem_of_getElem? (i := 1486) (by decide +kernel), List.mem_of_getElem? (i := 1487) (by decide +kernel)⟩
theorem lw_p153 : lw_okq (⟨"ShadowCourtModel", "mostAtOnce", "()I"⟩, 61) := ⟨⟨by decide +kernel, by decide +kernel⟩, List.mem_of_getElem? (i := 1013) (by decide +kernel), List.mem_of_getElem? (i := 1502) (by decide +kernel), List.mem_of_getElem? (i := 1503) (by decide +kernel)⟩
theorem lw_p154 : lw_okq (⟨"ShadowCourtModel", "laysReach", "()V"⟩, 61) := ⟨⟨by decide +kernel, by decide +kernel⟩, List.mem_of_getElem? (i := 1013) (by decide +kernel), List.mem_of_getElem? (i := 1506) (by decide +kernel), List.mem_of_getElem? (i := 1507) (by decide +kernel)⟩
theorem lw_p155 : lw_okq (⟨"ShadowCourtModel", "laysSteps", "()V"⟩, 61) := ⟨⟨by decide +kernel, by decide +kernel⟩, List.mem_of_getElem? (i := 1013) (by decide +kernel), List.mem_of_getElem? (i := 1517) (by decide +kernel), List.mem_of_getElem? (i := 1518) (by decide +kernel)⟩
theorem lw_p156 : lw_okq (⟨"ShadowCourtModel", "goesFew", "(I)V"⟩, 61) := ⟨⟨by decide +kernel, by decide +kernel⟩, List.mem_of_getElem? (i := 1013) (by decide +kernel), List.mem_of_getElem? (i := 1521) (by decide +kernel), List.mem_of_getElem? (i := 1522) (by decide +kernel)⟩
theorem lw_p157 : lw_okq (⟨"ShadowCourtModel", "servedIn", "(III)I"⟩, 61) := ⟨⟨by decide +kernel, by decide +kernel⟩, List.mem_of_getElem? (i := 1013) (by decide +kernel), List.mem_of_getElem? (i := 1529) (by decide +kernel), List.mem_of_getElem? (i := 1530) (by decide +kernel)⟩
theorem lw_p158 : lw_okq (⟨"ShadowCourtModel", "isFree", "(I)Z"⟩, 61) := ⟨⟨by decide +kernel, by decide +kernel⟩, List.mem_of_getElem? (i := 1013) (by decide +kernel), List.mem_of_getElem? (i := 1540) (by decide +kernel), List.mem_of_getElem? (i := 1541) (by decide +kernel)⟩
theorem lw_p159 : lw_okq (⟨"ShadowCourtModel", "servedFirst", "(II)I"⟩, 61) := ⟨⟨by decide +kernel, by decide +kernel⟩, List.mem_of_getElem? (i := 1013) (by decide +kernel), List.mem_of_getElem? (i := 1548) (by decide +kernel), List.mem_of_getElem? (i := 1549) (by decide +kernel)⟩
def lw_privs_10 : List (MethodName × Nat) := [(⟨"ShadowCourtModel", "fallsByLamps", "()V"⟩, 61), (⟨"ShadowCourtModel", "fallsBehind", "(II)V"⟩, 61), (⟨"ShadowCourtModel", "laysOrder", "()I"⟩, 61), (⟨"ShadowCourtModel", "owes", "(I)Z"⟩, 61), (⟨"ShadowCourtModel", "byFelon", "(III)I"⟩, 61), (⟨"ShadowCourtModel", "servesOf", "(IZ)V"⟩, 61), (⟨"ShadowCourtModel", "findsFor", "(I)I"⟩, 61), (⟨"ShadowCourtModel", "laysCosts", "(IIZ)V"⟩, 61), (⟨"ShadowCourtModel", "freeMany", "()I"⟩, 61), (⟨"ShadowCourtModel", "mostAtOnce", "()I"⟩, 61), (⟨"ShadowCourtModel", "laysReach", "()V"⟩, 61), (⟨"ShadowCourtModel", "laysSteps", "()V"⟩, 61), (⟨"ShadowCourtModel", "goesFew", "(I)V"⟩, 61), (⟨"ShadowCourtModel", "servedIn", "(III)I"⟩, 61), (⟨"ShadowCourtModel", "isFree", "(I)Z"⟩, 61), (⟨"ShadowCourtModel", "servedFirst", "(II)I"⟩, 61)]
theorem lw_r10 : ∀ q ∈ lw_privs_10, lw_okq q := List.forall_mem_cons.mpr ⟨lw_p144, List.forall_mem_cons.mpr ⟨lw_p145, List.forall_mem_cons.mpr ⟨lw_p146, List.forall_mem_cons.mpr ⟨lw_p147, List.forall_mem_cons.mpr ⟨lw_p148, List.forall_mem_cons.mpr ⟨lw_p149, List.forall_mem_cons.mpr ⟨lw_p150, List.forall_mem_cons.mpr ⟨lw_p151, List.forall_mem_cons.mpr ⟨lw_p152, List.forall_mem_cons.mpr ⟨lw_p153, List.forall_mem_cons.mpr ⟨lw_p154, List.forall_mem_cons.mpr ⟨lw_p155, List.forall_mem_cons.mpr ⟨lw_p156, List.forall_mem_cons.mpr ⟨lw_p157, List.forall_mem_cons.mpr ⟨lw_p158, List.forall_mem_cons.mpr ⟨lw_p159, fun _ h => absurd h List.not_mem_nil⟩⟩⟩⟩⟩⟩⟩⟩⟩⟩⟩⟩⟩⟩⟩⟩
theorem lw_p160 : lw_okq (⟨"ShadowCourtModel", "laysDark", "(I)V"⟩, 61) := ⟨⟨by decide +kernel, by decide +kernel⟩, List.mem_of_getElem? (i := 1013) (by decide +kernel), List.mem_of_getElem? (i := 1556) (by decide +kernel), List.mem_of_getElem? (i := 1557) (by decide +kernel)⟩
theorem lw_p161 : lw_okq (⟨"ShadowCourtModel", "areSpots", "(I)Z"⟩, 61) := ⟨⟨by decide +kernel, by decide +kernel⟩, List.mem_of_getElem? (i := 1013) (by decide +kernel), List.mem_of_getElem? (i := 1564) (by decide +kernel), List.mem_of_getElem? (i := 1565) (by decide +kernel)⟩
theorem lw_p162 : lw_okq (⟨"ShadowCourtModel", "failsAt", "(I)I"⟩, 61) := ⟨⟨by decide +kernel, by decide +kernel⟩, List.mem_of_getElem? (i := 1013) (by decide +kernel), List.mem_of_getElem? (i := 1568) (by decide +kernel), List.mem_of_getElem? (i := 1569) (by decide +kernel)⟩
theorem lw_p163 : lw_okq (⟨"ShadowCourtModel", "binds", "(III)V"⟩, 61) := ⟨⟨by decide +kernel, by decide +kernel⟩, List.mem_of_getElem? (i := 1013) (by decide +kernel), List.mem_of_getElem? (i := 1580) (by decide +kernel), List.mem_of_getElem? (i := 1581) (by decide +kernel)⟩
theorem lw_p164 : lw_okq (⟨"ShadowCourtModel", "tapeNumber", "(I)I"⟩, 61) := ⟨⟨by decide +kernel, by decide +kernel⟩, List.mem_of_getElem? (i := 1013) (by decide +kernel), List.mem_of_getElem? (i := 1608) (by decide +kernel), List.mem_of_getElem? (i := 1609) (by decide +kernel)⟩
theorem lw_p165 : lw_okq (⟨"ShadowCourtModel", "lampSet", "()I"⟩, 61) := ⟨⟨by decide +kernel, by decide +kernel⟩, List.mem_of_getElem? (i := 1013) (by decide +kernel), List.mem_of_getElem? (i := 1616) (by decide +kernel), List.mem_of_getElem? (i := 1617) (by decide +kernel)⟩
theorem lw_p166 : lw_okq (⟨"ShadowCourtModel", "owedAll", "()I"⟩, 61) := ⟨⟨by decide +kernel, by decide +kernel⟩, List.mem_of_getElem? (i := 1013) (by decide +kernel), List.mem_of_getElem? (i := 1620) (by decide +kernel), List.mem_of_getElem? (i := 1621) (by decide +kernel)⟩
def lw_privs_11 : List (MethodName × Nat) := [(⟨"ShadowCourtModel", "laysDark", "(I)V"⟩, 61), (⟨"ShadowCourtModel", "areSpots", "(I)Z"⟩, 61), (⟨"ShadowCourtModel", "failsAt", "(I)I"⟩, 61), (⟨"ShadowCourtModel", "binds", "(III)V"⟩, 61), (⟨"ShadowCourtModel", "tapeNumber", "(I)I"⟩, 61), (⟨"ShadowCourtModel", "lampSet", "()I"⟩, 61), (⟨"ShadowCourtModel", "owedAll", "()I"⟩, 61)]
theorem lw_r11 : ∀ q ∈ lw_privs_11, lw_okq q := List.forall_mem_cons.mpr ⟨lw_p160, List.forall_mem_cons.mpr ⟨lw_p161, List.forall_mem_cons.mpr ⟨lw_p162, List.forall_mem_cons.mpr ⟨lw_p163, List.forall_mem_cons.mpr ⟨lw_p164, List.forall_mem_cons.mpr ⟨lw_p165, List.forall_mem_cons.mpr ⟨lw_p166, fun _ h => absurd h List.not_mem_nil⟩⟩⟩⟩⟩⟩⟩
def lw_privs : List (MethodName × Nat) := lw_privs_1 ++ (lw_privs_2 ++ (lw_privs_3 ++ (lw_privs_4 ++ (lw_privs_5 ++ (lw_privs_6 ++ (lw_privs_7 ++ (lw_privs_8 ++ (lw_privs_9 ++ (lw_privs_10 ++ (lw_privs_11))))))))))
def lw_tbl : List Cond := k2_sels lw_privs ++ tables_1
theorem lw_privs_ok : ∀ q ∈ lw_privs, lw_okq q := by
  show ∀ q ∈ lw_privs_1 ++ (lw_privs_2 ++ (lw_privs_3 ++ (lw_privs_4 ++ (lw_privs_5 ++ (lw_privs_6 ++ (lw_privs_7 ++ (lw_privs_8 ++ (lw_privs_9 ++ (lw_privs_10 ++ (lw_privs_11)))))))))), lw_okq q
  exact List.forall_mem_append.mpr ⟨lw_r1, List.forall_mem_append.mpr ⟨lw_r2, List.forall_mem_append.mpr ⟨lw_r3, List.forall_mem_append.mpr ⟨lw_r4, List.forall_mem_append.mpr ⟨lw_r5, List.forall_mem_append.mpr ⟨lw_r6, List.forall_mem_append.mpr ⟨lw_r7, List.forall_mem_append.mpr ⟨lw_r8, List.forall_mem_append.mpr ⟨lw_r9, List.forall_mem_append.mpr ⟨lw_r10, lw_r11⟩⟩⟩⟩⟩⟩⟩⟩⟩⟩
-- ===== end of PART A
/-! ===== BEGIN printed: names, fields, word lists, decode rows ===== -/
def RX0 : String := "ShadowCourt$Clock"
def TX0 : u_T := fun k => match k with
  | 0 => ("ShadowCourt$Clock", "market", "LShadowCourt$Market;", true)
  | 1 => ("ShadowCourt$Clock", "law", "LShadowCourt$Law;", true)
  | 2 => ("ShadowCourt$Clock", "lampSpot", "[I", true)
  | 3 => ("ShadowCourt$Clock", "shadows", "LShadowCourt$Shadows;", true)
  | 4 => ("ShadowCourt$Clock", "line", "[I", true)
  | _ => ("ShadowCourt$Clock", "ranks", "[I", true)
def tyX0 : Nat → FieldType := fun k => match k with
  | 0 => .object "ShadowCourt$Market"
  | 1 => .object "ShadowCourt$Law"
  | 2 => .array .int
  | 3 => .object "ShadowCourt$Shadows"
  | 4 => .array .int
  | _ => .array .int
theorem nmX0 : ∀ a, a < 6 → ∀ b, b < 6 → a ≠ b → (TX0 a).2.1 ≠ (TX0 b).2.1 := by decide +kernel
theorem tyX0_ok : ∀ k, k < 6 → parseFieldDescriptor (TX0 k).2.2.1 = some (tyX0 k) := by decide +kernel
abbrev cX0_init : ByteArray := prog_2_method_1_code
def yX0_init : MethodName := ⟨RX0, "<init>", "(LShadowCourt$Market;LShadowCourt$Law;)V"⟩
abbrev cX0_goOn : ByteArray := prog_2_method_2_code
def yX0_goOn : MethodName := ⟨RX0, "goOn", "(LShadowCourt$Day;II)I"⟩
abbrev cX0_walkOn : ByteArray := prog_2_method_3_code
def yX0_walkOn : MethodName := ⟨RX0, "walkOn", "(LShadowCourt$Day;)Z"⟩
abbrev cX0_judgesStep : ByteArray := prog_2_method_4_code
def yX0_judgesStep : MethodName := ⟨RX0, "judgesStep", "(LShadowCourt$Day;)V"⟩
abbrev cX0_castCloudless : ByteArray := prog_2_method_5_code
def yX0_castCloudless : MethodName := ⟨RX0, "castCloudless", "(LShadowCourt$Day;)V"⟩
abbrev cX0_cast : ByteArray := prog_2_method_6_code
def yX0_cast : MethodName := ⟨RX0, "cast", "(LShadowCourt$Day;ZZ)V"⟩
abbrev cX0_castOfLamp : ByteArray := prog_2_method_7_code
def yX0_castOfLamp : MethodName := ⟨RX0, "castOfLamp", "(LShadowCourt$Day;I)V"⟩
abbrev cX0_spotsInLampShadows : ByteArray := prog_2_method_8_code
def yX0_spotsInLampShadows : MethodName := ⟨RX0, "spotsInLampShadows", "(LShadowCourt$Day;I)I"⟩
abbrev cX0_shadowsAt : ByteArray := prog_2_method_9_code
def yX0_shadowsAt : MethodName := ⟨RX0, "shadowsAt", "(LShadowCourt$Day;I)I"⟩
abbrev cX0_tellFelon : ByteArray := prog_2_method_10_code
def yX0_tellFelon : MethodName := ⟨RX0, "tellFelon", "(LShadowCourt$Day;I)V"⟩
abbrev cX0_reachOf : ByteArray := prog_2_method_11_code
def yX0_reachOf : MethodName := ⟨RX0, "reachOf", "(LShadowCourt$Day;I)I"⟩
abbrev cX0_lineUp : ByteArray := prog_2_method_12_code
def yX0_lineUp : MethodName := ⟨RX0, "lineUp", "(LShadowCourt$Day;I)I"⟩
abbrev cX0_felonsGo : ByteArray := prog_2_method_13_code
def yX0_felonsGo : MethodName := ⟨RX0, "felonsGo", "(LShadowCourt$Day;IZ)V"⟩
abbrev cX0_findShadow : ByteArray := prog_2_method_14_code
def yX0_findShadow : MethodName := ⟨RX0, "findShadow", "(LShadowCourt$Day;II)I"⟩
def RX1 : String := "ShadowCourt$Crowd"
def TX1 : u_T := fun k => match k with
  | 0 => ("ShadowCourt$Crowd", "clock", "LShadowCourt$Clock;", true)
  | 1 => ("ShadowCourt$Crowd", "reach", "[I", true)
  | 2 => ("ShadowCourt$Crowd", "placeOf", "[I", true)
  | 3 => ("ShadowCourt$Crowd", "holderOf", "[I", true)
  | 4 => ("ShadowCourt$Crowd", "reachedBy", "[I", true)
  | _ => ("ShadowCourt$Crowd", "queue", "[I", true)
def tyX1 : Nat → FieldType := fun k => match k with
  | 0 => .object "ShadowCourt$Clock"
  | 1 => .array .int
  | 2 => .array .int
  | 3 => .array .int
  | 4 => .array .int
  | _ => .array .int
theorem nmX1 : ∀ a, a < 6 → ∀ b, b < 6 → a ≠ b → (TX1 a).2.1 ≠ (TX1 b).2.1 := by decide +kernel
theorem tyX1_ok : ∀ k, k < 6 → parseFieldDescriptor (TX1 k).2.2.1 = some (tyX1 k) := by decide +kernel
abbrev cX1_init : ByteArray := prog_3_method_1_code
def yX1_init : MethodName := ⟨RX1, "<init>", "(LShadowCourt$Clock;)V"⟩
abbrev cX1_most : ByteArray := prog_3_method_2_code
def yX1_most : MethodName := ⟨RX1, "most", "(LShadowCourt$Day;)I"⟩
abbrev cX1_findsPlace : ByteArray := prog_3_method_3_code
def yX1_findsPlace : MethodName := ⟨RX1, "findsPlace", "(LShadowCourt$Day;I)Z"⟩
abbrev cX1_canGo : ByteArray := prog_3_method_4_code
def yX1_canGo : MethodName := ⟨RX1, "canGo", "(LShadowCourt$Day;II)Z"⟩
abbrev cX1_handOn : ByteArray := prog_3_method_5_code
def yX1_handOn : MethodName := ⟨RX1, "handOn", "(I)V"⟩
def RX2 : String := "ShadowCourt$Day"
def TX2 : u_T := fun k => match k with
  | 0 => ("ShadowCourt$Day", "judgeSpot", "[I", true)
  | 1 => ("ShadowCourt$Day", "walks", "[[I", true)
  | 2 => ("ShadowCourt$Day", "stepsDone", "[I", true)
  | 3 => ("ShadowCourt$Day", "felonSpot", "[I", true)
  | 4 => ("ShadowCourt$Day", "owed", "[I", true)
  | 5 => ("ShadowCourt$Day", "away", "[I", true)
  | 6 => ("ShadowCourt$Day", "drowned", "[Z", true)
  | 7 => ("ShadowCourt$Day", "minute", "I", false)
  | 8 => ("ShadowCourt$Day", "drawState", "I", false)
  | 9 => ("ShadowCourt$Day", "timesAway", "I", false)
  | 10 => ("ShadowCourt$Day", "cloudyMinutes", "I", false)
  | _ => ("ShadowCourt$Day", "felonSteps", "I", false)
def tyX2 : Nat → FieldType := fun k => match k with
  | 0 => .array .int
  | 1 => .array (.array .int)
  | 2 => .array .int
  | 3 => .array .int
  | 4 => .array .int
  | 5 => .array .int
  | 6 => .array .boolean
  | 7 => .int
  | 8 => .int
  | 9 => .int
  | 10 => .int
  | _ => .int
theorem nmX2 : ∀ a, a < 12 → ∀ b, b < 12 → a ≠ b → (TX2 a).2.1 ≠ (TX2 b).2.1 := by decide +kernel
theorem tyX2_ok : ∀ k, k < 12 → parseFieldDescriptor (TX2 k).2.2.1 = some (tyX2 k) := by decide +kernel
abbrev cX2_init : ByteArray := prog_4_method_1_code
def yX2_init : MethodName := ⟨RX2, "<init>", "()V"⟩
abbrev cX2_copyFrom : ByteArray := prog_4_method_2_code
def yX2_copyFrom : MethodName := ⟨RX2, "copyFrom", "(LShadowCourt$Day;)V"⟩
abbrev cX2_clearCounts : ByteArray := prog_4_method_3_code
def yX2_clearCounts : MethodName := ⟨RX2, "clearCounts", "()V"⟩
abbrev cX2_setWalk : ByteArray := prog_4_method_4_code
def yX2_setWalk : MethodName := ⟨RX2, "setWalk", "(I[I)V"⟩
abbrev cX2_setFelon : ByteArray := prog_4_method_5_code
def yX2_setFelon : MethodName := ⟨RX2, "setFelon", "(III)V"⟩
abbrev cX2_hasJudge : ByteArray := prog_4_method_6_code
def yX2_hasJudge : MethodName := ⟨RX2, "hasJudge", "(I)Z"⟩
abbrev cX2_hasFelon : ByteArray := prog_4_method_7_code
def yX2_hasFelon : MethodName := ⟨RX2, "hasFelon", "(I)Z"⟩
abbrev cX2_mustServe : ByteArray := prog_4_method_8_code
def yX2_mustServe : MethodName := ⟨RX2, "mustServe", "(I)Z"⟩
abbrev cX2_stepsLeft : ByteArray := prog_4_method_9_code
def yX2_stepsLeft : MethodName := ⟨RX2, "stepsLeft", "(I)I"⟩
abbrev cX2_takeStep : ByteArray := prog_4_method_10_code
def yX2_takeStep : MethodName := ⟨RX2, "takeStep", "(I)I"⟩
abbrev cX2_draw : ByteArray := prog_4_method_11_code
def yX2_draw : MethodName := ⟨RX2, "draw", "()I"⟩
abbrev cX2_owedByAll : ByteArray := prog_4_method_12_code
def yX2_owedByAll : MethodName := ⟨RX2, "owedByAll", "()I"⟩
abbrev cX2_howManyDrowned : ByteArray := prog_4_method_13_code
def yX2_howManyDrowned : MethodName := ⟨RX2, "howManyDrowned", "()I"⟩
abbrev cX2_howManyOweNothing : ByteArray := prog_4_method_14_code
def yX2_howManyOweNothing : MethodName := ⟨RX2, "howManyOweNothing", "()I"⟩
def RX3 : String := "ShadowCourt$Foresight"
def TX3 : u_T := fun k => match k with
  | 0 => ("ShadowCourt$Foresight", "clock", "LShadowCourt$Clock;", true)
  | 1 => ("ShadowCourt$Foresight", "now", "LShadowCourt$Day;", true)
  | 2 => ("ShadowCourt$Foresight", "days", "[LShadowCourt$Day;", true)
  | 3 => ("ShadowCourt$Foresight", "singleSteps", "[[I", true)
  | 4 => ("ShadowCourt$Foresight", "way", "[I", true)
  | 5 => ("ShadowCourt$Foresight", "bestWay", "[I", true)
  | 6 => ("ShadowCourt$Foresight", "bestFelon", "I", false)
  | 7 => ("ShadowCourt$Foresight", "shadedMinutes", "[I", true)
  | 8 => ("ShadowCourt$Foresight", "least", "[[I", true)
  | 9 => ("ShadowCourt$Foresight", "spread", "[I", true)
  | _ => ("ShadowCourt$Foresight", "wider", "[I", true)
def tyX3 : Nat → FieldType := fun k => match k with
  | 0 => .object "ShadowCourt$Clock"
  | 1 => .object "ShadowCourt$Day"
  | 2 => .array (.object "ShadowCourt$Day")
  | 3 => .array (.array .int)
  | 4 => .array .int
  | 5 => .array .int
  | 6 => .int
  | 7 => .array .int
  | 8 => .array (.array .int)
  | 9 => .array .int
  | _ => .array .int
theorem nmX3 : ∀ a, a < 11 → ∀ b, b < 11 → a ≠ b → (TX3 a).2.1 ≠ (TX3 b).2.1 := by decide +kernel
theorem tyX3_ok : ∀ k, k < 11 → parseFieldDescriptor (TX3 k).2.2.1 = some (tyX3 k) := by decide +kernel
abbrev cX3_init : ByteArray := prog_5_method_1_code
def yX3_init : MethodName := ⟨RX3, "<init>", "(LShadowCourt$Clock;LShadowCourt$Day;)V"⟩
abbrev cX3_copyOfNow : ByteArray := prog_5_method_2_code
def yX3_copyOfNow : MethodName := ⟨RX3, "copyOfNow", "()LShadowCourt$Day;"⟩
abbrev cX3_leastOwedWay : ByteArray := prog_5_method_3_code
def yX3_leastOwedWay : MethodName := ⟨RX3, "leastOwedWay", "(II)I"⟩
abbrev cX3_stepAlone : ByteArray := prog_5_method_4_code
def yX3_stepAlone : MethodName := ⟨RX3, "stepAlone", "(I)[I"⟩
abbrev cX3_turnToNextWay : ByteArray := prog_5_method_5_code
def yX3_turnToNextWay : MethodName := ⟨RX3, "turnToNextWay", "(I)I"⟩
abbrev cX3_bestAhead : ByteArray := prog_5_method_6_code
def yX3_bestAhead : MethodName := ⟨RX3, "bestAhead", "(I)I"⟩
abbrev cX3_countShadedMinutes : ByteArray := prog_5_method_7_code
def yX3_countShadedMinutes : MethodName := ⟨RX3, "countShadedMinutes", "(I)V"⟩
abbrev cX3_howManyNeverShaded : ByteArray := prog_5_method_8_code
def yX3_howManyNeverShaded : MethodName := ⟨RX3, "howManyNeverShaded", "()I"⟩
abbrev cX3_mostShaded : ByteArray := prog_5_method_9_code
def yX3_mostShaded : MethodName := ⟨RX3, "mostShaded", "()I"⟩
abbrev cX3_fewestSteps : ByteArray := prog_5_method_10_code
def yX3_fewestSteps : MethodName := ⟨RX3, "fewestSteps", "(III)I"⟩
abbrev cX3_spreadSteps : ByteArray := prog_5_method_11_code
def yX3_spreadSteps : MethodName := ⟨RX3, "spreadSteps", "([I)V"⟩
abbrev cX3_oneStepMore : ByteArray := prog_5_method_12_code
def yX3_oneStepMore : MethodName := ⟨RX3, "oneStepMore", "(I)I"⟩
abbrev cX3_settle : ByteArray := prog_5_method_13_code
def yX3_settle : MethodName := ⟨RX3, "settle", "(II)V"⟩
def RX4 : String := "ShadowCourt$Law"
def TX4 : u_T := fun k => match k with
  | 0 => ("ShadowCourt$Law", "orders", "[I", true)
  | 1 => ("ShadowCourt$Law", "words", "[I", true)
  | 2 => ("ShadowCourt$Law", "used", "I", false)
  | 3 => ("ShadowCourt$Law", "kindOfClause", "[I", true)
  | 4 => ("ShadowCourt$Law", "worthAt", "[I", true)
  | 5 => ("ShadowCourt$Law", "askedAt", "[I", true)
  | 6 => ("ShadowCourt$Law", "clauses", "I", false)
  | 7 => ("ShadowCourt$Law", "told", "[I", true)
  | _ => ("ShadowCourt$Law", "stack", "[I", true)
def tyX4 : Nat → FieldType := fun k => match k with
  | 0 => .array .int
  | 1 => .array .int
  | 2 => .int
  | 3 => .array .int
  | 4 => .array .int
  | 5 => .array .int
  | 6 => .int
  | 7 => .array .int
  | _ => .array .int
theorem nmX4 : ∀ a, a < 9 → ∀ b, b < 9 → a ≠ b → (TX4 a).2.1 ≠ (TX4 b).2.1 := by decide +kernel
theorem tyX4_ok : ∀ k, k < 9 → parseFieldDescriptor (TX4 k).2.2.1 = some (tyX4 k) := by decide +kernel
abbrev cX4_init : ByteArray := prog_6_method_1_code
def yX4_init : MethodName := ⟨RX4, "<init>", "()V"⟩
abbrev cX4_empty : ByteArray := prog_6_method_2_code
def yX4_empty : MethodName := ⟨RX4, "empty", "()V"⟩
abbrev cX4_copyFrom : ByteArray := prog_6_method_3_code
def yX4_copyFrom : MethodName := ⟨RX4, "copyFrom", "(LShadowCourt$Law;)V"⟩
abbrev cX4_put : ByteArray := prog_6_method_4_code
def yX4_put : MethodName := ⟨RX4, "put", "(II)I"⟩
abbrev cX4_landSkip : ByteArray := prog_6_method_5_code
def yX4_landSkip : MethodName := ⟨RX4, "landSkip", "(I)V"⟩
abbrev cX4_placeOfLetter : ByteArray := prog_6_method_6_code
def yX4_placeOfLetter : MethodName := ⟨RX4, "placeOfLetter", "(I)I"⟩
abbrev cX4_tellMinute : ByteArray := prog_6_method_7_code
def yX4_tellMinute : MethodName := ⟨RX4, "tellMinute", "(I)V"⟩
abbrev cX4_tellJudge : ByteArray := prog_6_method_8_code
def yX4_tellJudge : MethodName := ⟨RX4, "tellJudge", "(II)V"⟩
abbrev cX4_tellFelon : ByteArray := prog_6_method_9_code
def yX4_tellFelon : MethodName := ⟨RX4, "tellFelon", "(IIIII)V"⟩
abbrev cX4_isNight : ByteArray := prog_6_method_10_code
def yX4_isNight : MethodName := ⟨RX4, "isNight", "(I)Z"⟩
abbrev cX4_worthOf : ByteArray := prog_6_method_11_code
def yX4_worthOf : MethodName := ⟨RX4, "worthOf", "(II)I"⟩
abbrev cX4_reckon : ByteArray := prog_6_method_12_code
def yX4_reckon : MethodName := ⟨RX4, "reckon", "(I)I"⟩
abbrev cX4_toldAt : ByteArray := prog_6_method_13_code
def yX4_toldAt : MethodName := ⟨RX4, "toldAt", "(I)I"⟩
abbrev cX4_joined : ByteArray := prog_6_method_14_code
def yX4_joined : MethodName := ⟨RX4, "joined", "(III)I"⟩
def RX5 : String := "ShadowCourt$LawReader"
def TX5 : u_T := fun k => match k with
  | 0 => ("ShadowCourt$LawReader", "tape", "LShadowCourt$Tape;", true)
  | _ => ("ShadowCourt$LawReader", "written", "LShadowCourt$Law;", true)
def tyX5 : Nat → FieldType := fun k => match k with
  | 0 => .object "ShadowCourt$Tape"
  | _ => .object "ShadowCourt$Law"
theorem nmX5 : ∀ a, a < 2 → ∀ b, b < 2 → a ≠ b → (TX5 a).2.1 ≠ (TX5 b).2.1 := by decide +kernel
theorem tyX5_ok : ∀ k, k < 2 → parseFieldDescriptor (TX5 k).2.2.1 = some (tyX5 k) := by decide +kernel
abbrev cX5_init : ByteArray := prog_7_method_1_code
def yX5_init : MethodName := ⟨RX5, "<init>", "(LShadowCourt$Tape;)V"⟩
abbrev cX5_readWhole : ByteArray := prog_7_method_2_code
def yX5_readWhole : MethodName := ⟨RX5, "readWhole", "()Z"⟩
abbrev cX5_isKind : ByteArray := prog_7_method_3_code
def yX5_isKind : MethodName := ⟨RX5, "isKind", "(I)Z"⟩
abbrev cX5_readClause : ByteArray := prog_7_method_4_code
def yX5_readClause : MethodName := ⟨RX5, "readClause", "(II)Z"⟩
abbrev cX5_readParts : ByteArray := prog_7_method_5_code
def yX5_readParts : MethodName := ⟨RX5, "readParts", "(I)Z"⟩
abbrev cX5_readPieces : ByteArray := prog_7_method_6_code
def yX5_readPieces : MethodName := ⟨RX5, "readPieces", "(I)Z"⟩
abbrev cX5_readPiece : ByteArray := prog_7_method_7_code
def yX5_readPiece : MethodName := ⟨RX5, "readPiece", "(I)Z"⟩
abbrev cX5_readSum : ByteArray := prog_7_method_8_code
def yX5_readSum : MethodName := ⟨RX5, "readSum", "(I)Z"⟩
abbrev cX5_readTerm : ByteArray := prog_7_method_9_code
def yX5_readTerm : MethodName := ⟨RX5, "readTerm", "(I)Z"⟩
abbrev cX5_readFactor : ByteArray := prog_7_method_10_code
def yX5_readFactor : MethodName := ⟨RX5, "readFactor", "(I)Z"⟩
abbrev cX5_readNumber : ByteArray := prog_7_method_11_code
def yX5_readNumber : MethodName := ⟨RX5, "readNumber", "()Z"⟩
def RX6 : String := "ShadowCourt$Market"
def TX6 : u_T := fun k => match k with
  | 0 => ("ShadowCourt$Market", "kinds", "[I", true)
  | 1 => ("ShadowCourt$Market", "drawn", "[I", true)
  | 2 => ("ShadowCourt$Market", "steps", "[[I", true)
  | 3 => ("ShadowCourt$Market", "isReckoned", "[Z", true)
  | _ => ("ShadowCourt$Market", "drySteps", "[I", true)
def tyX6 : Nat → FieldType := fun k => match k with
  | 0 => .array .int
  | 1 => .array .int
  | 2 => .array (.array .int)
  | 3 => .array .boolean
  | _ => .array .int
theorem nmX6 : ∀ a, a < 5 → ∀ b, b < 5 → a ≠ b → (TX6 a).2.1 ≠ (TX6 b).2.1 := by decide +kernel
theorem tyX6_ok : ∀ k, k < 5 → parseFieldDescriptor (TX6 k).2.2.1 = some (tyX6 k) := by decide +kernel
abbrev cX6_init : ByteArray := prog_8_method_1_code
def yX6_init : MethodName := ⟨RX6, "<init>", "()V"⟩
abbrev cX6_spotAt : ByteArray := prog_8_method_2_code
def yX6_spotAt : MethodName := ⟨RX6, "spotAt", "(II)I"⟩
abbrev cX6_isSpot : ByteArray := prog_8_method_3_code
def yX6_isSpot : MethodName := ⟨RX6, "isSpot", "(I)Z"⟩
abbrev cX6_beside : ByteArray := prog_8_method_4_code
def yX6_beside : MethodName := ⟨RX6, "beside", "(II)I"⟩
abbrev cX6_kindAt : ByteArray := prog_8_method_5_code
def yX6_kindAt : MethodName := ⟨RX6, "kindAt", "(I)I"⟩
abbrev cX6_isOpen : ByteArray := prog_8_method_6_code
def yX6_isOpen : MethodName := ⟨RX6, "isOpen", "(I)Z"⟩
abbrev cX6_openSpot : ByteArray := prog_8_method_7_code
def yX6_openSpot : MethodName := ⟨RX6, "openSpot", "(II)I"⟩
abbrev cX6_howMany : ByteArray := prog_8_method_8_code
def yX6_howMany : MethodName := ⟨RX6, "howMany", "(I)I"⟩
abbrev cX6_readFrom : ByteArray := prog_8_method_9_code
def yX6_readFrom : MethodName := ⟨RX6, "readFrom", "(LShadowCourt$Tape;)Z"⟩
abbrev cX6_readRow : ByteArray := prog_8_method_10_code
def yX6_readRow : MethodName := ⟨RX6, "readRow", "(LShadowCourt$Tape;I)Z"⟩
abbrev cX6_kindOf : ByteArray := prog_8_method_11_code
def yX6_kindOf : MethodName := ⟨RX6, "kindOf", "(I)I"⟩
abbrev cX6_timesOf : ByteArray := prog_8_method_12_code
def yX6_timesOf : MethodName := ⟨RX6, "timesOf", "(I)I"⟩
abbrev cX6_isDryWalk : ByteArray := prog_8_method_13_code
def yX6_isDryWalk : MethodName := ⟨RX6, "isDryWalk", "(II)Z"⟩
abbrev cX6_stepsBetween : ByteArray := prog_8_method_14_code
def yX6_stepsBetween : MethodName := ⟨RX6, "stepsBetween", "(II)I"⟩
abbrev cX6_reckonRow : ByteArray := prog_8_method_15_code
def yX6_reckonRow : MethodName := ⟨RX6, "reckonRow", "([IIZ)V"⟩
def RX7 : String := "ShadowCourt$Shadows"
def TX7 : u_T := fun k => match k with
  | 0 => ("ShadowCourt$Shadows", "layers", "[I", true)
  | 1 => ("ShadowCourt$Shadows", "spots", "[I", true)
  | 2 => ("ShadowCourt$Shadows", "isTaken", "[Z", true)
  | _ => ("ShadowCourt$Shadows", "size", "I", false)
def tyX7 : Nat → FieldType := fun k => match k with
  | 0 => .array .int
  | 1 => .array .int
  | 2 => .array .boolean
  | _ => .int
theorem nmX7 : ∀ a, a < 4 → ∀ b, b < 4 → a ≠ b → (TX7 a).2.1 ≠ (TX7 b).2.1 := by decide +kernel
theorem tyX7_ok : ∀ k, k < 4 → parseFieldDescriptor (TX7 k).2.2.1 = some (tyX7 k) := by decide +kernel
abbrev cX7_init : ByteArray := prog_9_method_1_code
def yX7_init : MethodName := ⟨RX7, "<init>", "()V"⟩
abbrev cX7_clear : ByteArray := prog_9_method_2_code
def yX7_clear : MethodName := ⟨RX7, "clear", "()V"⟩
abbrev cX7_layersAt : ByteArray := prog_9_method_3_code
def yX7_layersAt : MethodName := ⟨RX7, "layersAt", "(I)I"⟩
abbrev cX7_fall : ByteArray := prog_9_method_4_code
def yX7_fall : MethodName := ⟨RX7, "fall", "(LShadowCourt$Market;III)V"⟩
abbrev cX7_howManyInMore : ByteArray := prog_9_method_5_code
def yX7_howManyInMore : MethodName := ⟨RX7, "howManyInMore", "()I"⟩
def RX8 : String := "ShadowCourt$Tape"
def TX8 : u_T := fun k => match k with
  | 0 => ("ShadowCourt$Tape", "bytes", "[I", true)
  | 1 => ("ShadowCourt$Tape", "length", "I", false)
  | 2 => ("ShadowCourt$Tape", "end", "I", false)
  | 3 => ("ShadowCourt$Tape", "at", "I", false)
  | _ => ("ShadowCourt$Tape", "fault", "I", false)
def tyX8 : Nat → FieldType := fun k => match k with
  | 0 => .array .int
  | 1 => .int
  | 2 => .int
  | 3 => .int
  | _ => .int
theorem nmX8 : ∀ a, a < 5 → ∀ b, b < 5 → a ≠ b → (TX8 a).2.1 ≠ (TX8 b).2.1 := by decide +kernel
theorem tyX8_ok : ∀ k, k < 5 → parseFieldDescriptor (TX8 k).2.2.1 = some (tyX8 k) := by decide +kernel
abbrev cX8_init : ByteArray := prog_10_method_1_code
def yX8_init : MethodName := ⟨RX8, "<init>", "()V"⟩
abbrev cX8_putNumber : ByteArray := prog_10_method_2_code
def yX8_putNumber : MethodName := ⟨RX8, "putNumber", "(I)V"⟩
abbrev cX8_byteAt : ByteArray := prog_10_method_3_code
def yX8_byteAt : MethodName := ⟨RX8, "byteAt", "(I)I"⟩
abbrev cX8_numberAt : ByteArray := prog_10_method_4_code
def yX8_numberAt : MethodName := ⟨RX8, "numberAt", "(I)I"⟩
abbrev cX8_drop : ByteArray := prog_10_method_5_code
def yX8_drop : MethodName := ⟨RX8, "drop", "()V"⟩
abbrev cX8_open : ByteArray := prog_10_method_6_code
def yX8_open : MethodName := ⟨RX8, "open", "(I)V"⟩
abbrev cX8_sign : ByteArray := prog_10_method_7_code
def yX8_sign : MethodName := ⟨RX8, "sign", "()I"⟩
abbrev cX8_isDigit : ByteArray := prog_10_method_8_code
def yX8_isDigit : MethodName := ⟨RX8, "isDigit", "()Z"⟩
abbrev cX8_passes : ByteArray := prog_10_method_9_code
def yX8_passes : MethodName := ⟨RX8, "passes", "(I)Z"⟩
abbrev cX8_fails : ByteArray := prog_10_method_10_code
def yX8_fails : MethodName := ⟨RX8, "fails", "(II)Z"⟩
def RX9 : String := "ShadowCourt$WalkReader"
def TX9 : u_T := fun k => match k with
  | 0 => ("ShadowCourt$WalkReader", "tape", "LShadowCourt$Tape;", true)
  | 1 => ("ShadowCourt$WalkReader", "steps", "[I", true)
  | _ => ("ShadowCourt$WalkReader", "size", "I", false)
def tyX9 : Nat → FieldType := fun k => match k with
  | 0 => .object "ShadowCourt$Tape"
  | 1 => .array .int
  | _ => .int
theorem nmX9 : ∀ a, a < 3 → ∀ b, b < 3 → a ≠ b → (TX9 a).2.1 ≠ (TX9 b).2.1 := by decide +kernel
theorem tyX9_ok : ∀ k, k < 3 → parseFieldDescriptor (TX9 k).2.2.1 = some (tyX9 k) := by decide +kernel
abbrev cX9_init : ByteArray := prog_11_method_1_code
def yX9_init : MethodName := ⟨RX9, "<init>", "(LShadowCourt$Tape;)V"⟩
abbrev cX9_readWhole : ByteArray := prog_11_method_2_code
def yX9_readWhole : MethodName := ⟨RX9, "readWhole", "()Z"⟩
abbrev cX9_copyOfSteps : ByteArray := prog_11_method_3_code
def yX9_copyOfSteps : MethodName := ⟨RX9, "copyOfSteps", "()[I"⟩
abbrev cX9_readSteps : ByteArray := prog_11_method_4_code
def yX9_readSteps : MethodName := ⟨RX9, "readSteps", "(I)Z"⟩
abbrev cX9_readStep : ByteArray := prog_11_method_5_code
def yX9_readStep : MethodName := ⟨RX9, "readStep", "(I)Z"⟩
abbrev cX9_repeat : ByteArray := prog_11_method_6_code
def yX9_repeat : MethodName := ⟨RX9, "repeat", "(II)Z"⟩
abbrev cX9_stepOf : ByteArray := prog_11_method_7_code
def yX9_stepOf : MethodName := ⟨RX9, "stepOf", "(I)I"⟩
def RX10 : String := "ShadowCourt"
def TX10 : u_T := fun k => match k with
  | 0 => ("ShadowCourt", "tape", "LShadowCourt$Tape;", true)
  | 1 => ("ShadowCourt", "market", "LShadowCourt$Market;", true)
  | 2 => ("ShadowCourt", "law", "LShadowCourt$Law;", true)
  | 3 => ("ShadowCourt", "lawReader", "LShadowCourt$LawReader;", true)
  | 4 => ("ShadowCourt", "walkReader", "LShadowCourt$WalkReader;", true)
  | 5 => ("ShadowCourt", "clock", "LShadowCourt$Clock;", true)
  | 6 => ("ShadowCourt", "foresight", "LShadowCourt$Foresight;", true)
  | 7 => ("ShadowCourt", "crowd", "LShadowCourt$Crowd;", true)
  | 8 => ("ShadowCourt", "now", "LShadowCourt$Day;", true)
  | 9 => ("ShadowCourt", "kept", "LShadowCourt$Day;", true)
  | 10 => ("ShadowCourt", "groupOf", "[I", true)
  | _ => ("ShadowCourt", "isKept", "Z", false)
def tyX10 : Nat → FieldType := fun k => match k with
  | 0 => .object "ShadowCourt$Tape"
  | 1 => .object "ShadowCourt$Market"
  | 2 => .object "ShadowCourt$Law"
  | 3 => .object "ShadowCourt$LawReader"
  | 4 => .object "ShadowCourt$WalkReader"
  | 5 => .object "ShadowCourt$Clock"
  | 6 => .object "ShadowCourt$Foresight"
  | 7 => .object "ShadowCourt$Crowd"
  | 8 => .object "ShadowCourt$Day"
  | 9 => .object "ShadowCourt$Day"
  | 10 => .array .int
  | _ => .boolean
theorem nmX10 : ∀ a, a < 12 → ∀ b, b < 12 → a ≠ b → (TX10 a).2.1 ≠ (TX10 b).2.1 := by decide +kernel
theorem tyX10_ok : ∀ k, k < 12 → parseFieldDescriptor (TX10 k).2.2.1 = some (tyX10 k) := by decide +kernel
abbrev cX10_init : ByteArray := prog_1_method_1_code
def yX10_init : MethodName := ⟨RX10, "<init>", "()V"⟩
abbrev cX10_feed : ByteArray := prog_1_method_2_code
def yX10_feed : MethodName := ⟨RX10, "feed", "(IIIII)I"⟩
abbrev cX10_market : ByteArray := prog_1_method_3_code
def yX10_market : MethodName := ⟨RX10, "market", "(I)I"⟩
abbrev cX10_law : ByteArray := prog_1_method_4_code
def yX10_law : MethodName := ⟨RX10, "law", "(I)I"⟩
abbrev cX10_judge : ByteArray := prog_1_method_5_code
def yX10_judge : MethodName := ⟨RX10, "judge", "(III)Z"⟩
abbrev cX10_walk : ByteArray := prog_1_method_6_code
def yX10_walk : MethodName := ⟨RX10, "walk", "(II)I"⟩
abbrev cX10_felon : ByteArray := prog_1_method_7_code
def yX10_felon : MethodName := ⟨RX10, "felon", "(IIII)Z"⟩
abbrev cX10_lamp : ByteArray := prog_1_method_8_code
def yX10_lamp : MethodName := ⟨RX10, "lamp", "(III)Z"⟩
abbrev cX10_minutes : ByteArray := prog_1_method_9_code
def yX10_minutes : MethodName := ⟨RX10, "minutes", "(I)I"⟩
abbrev cX10_tried : ByteArray := prog_1_method_10_code
def yX10_tried : MethodName := ⟨RX10, "tried", "(II)I"⟩
abbrev cX10_felonIs : ByteArray := prog_1_method_11_code
def yX10_felonIs : MethodName := ⟨RX10, "felonIs", "(II)I"⟩
abbrev cX10_shade : ByteArray := prog_1_method_12_code
def yX10_shade : MethodName := ⟨RX10, "shade", "(II)I"⟩
abbrev cX10_atOnce : ByteArray := prog_1_method_13_code
def yX10_atOnce : MethodName := ⟨RX10, "atOnce", "(I)I"⟩
abbrev cX10_fewest : ByteArray := prog_1_method_14_code
def yX10_fewest : MethodName := ⟨RX10, "fewest", "(III)I"⟩
abbrev cX10_home : ByteArray := prog_1_method_15_code
def yX10_home : MethodName := ⟨RX10, "home", "(III)I"⟩
abbrev cX10_first : ByteArray := prog_1_method_16_code
def yX10_first : MethodName := ⟨RX10, "first", "(II)I"⟩
abbrev cX10_dark : ByteArray := prog_1_method_17_code
def yX10_dark : MethodName := ⟨RX10, "dark", "(II)I"⟩
abbrev cX10_hung : ByteArray := prog_1_method_18_code
def yX10_hung : MethodName := ⟨RX10, "hung", "(I)I"⟩
abbrev cX10_prints : ByteArray := prog_1_method_19_code
def yX10_prints : MethodName := ⟨RX10, "prints", "(II)I"⟩
abbrev cX10_cloudy : ByteArray := prog_1_method_20_code
def yX10_cloudy : MethodName := ⟨RX10, "cloudy", "(III)I"⟩
abbrev cX10_together : ByteArray := prog_1_method_21_code
def yX10_together : MethodName := ⟨RX10, "together", "(II)I"⟩
abbrev cX10_servedBy : ByteArray := prog_1_method_22_code
def yX10_servedBy : MethodName := ⟨RX10, "servedBy", "(II)I"⟩
abbrev cX10_seed : ByteArray := prog_1_method_23_code
def yX10_seed : MethodName := ⟨RX10, "seed", "(I)Z"⟩
abbrev cX10_keep : ByteArray := prog_1_method_24_code
def yX10_keep : MethodName := ⟨RX10, "keep", "()I"⟩
abbrev cX10_undo : ByteArray := prog_1_method_25_code
def yX10_undo : MethodName := ⟨RX10, "undo", "()Z"⟩
abbrev cX10_check : ByteArray := prog_1_method_26_code
def yX10_check : MethodName := ⟨RX10, "check", "(I)I"⟩
abbrev cX10_count : ByteArray := prog_1_method_27_code
def yX10_count : MethodName := ⟨RX10, "count", "(I)I"⟩
abbrev cX10_isIn : ByteArray := prog_1_method_28_code
def yX10_isIn : MethodName := ⟨RX10, "isIn", "(III)Z"⟩
abbrev cX10_bitsOfTold : ByteArray := prog_1_method_29_code
def yX10_bitsOfTold : MethodName := ⟨RX10, "bitsOfTold", "([I)I"⟩
abbrev cX10_sendAwayWhoCannotStand : ByteArray := prog_1_method_30_code
def yX10_sendAwayWhoCannotStand : MethodName := ⟨RX10, "sendAwayWhoCannotStand", "()V"⟩
abbrev cX10_canBeTried : ByteArray := prog_1_method_31_code
def yX10_canBeTried : MethodName := ⟨RX10, "canBeTried", "(I)Z"⟩
abbrev cX10_isFreeForLamp : ByteArray := prog_1_method_32_code
def yX10_isFreeForLamp : MethodName := ⟨RX10, "isFreeForLamp", "(I)Z"⟩
abbrev cX10_holds : ByteArray := prog_1_method_33_code
def yX10_holds : MethodName := ⟨RX10, "holds", "([II)Z"⟩
abbrev cX10_hasBytesBeyond : ByteArray := prog_1_method_34_code
def yX10_hasBytesBeyond : MethodName := ⟨RX10, "hasBytesBeyond", "(III)Z"⟩
abbrev cX10_brokenPrint : ByteArray := prog_1_method_35_code
def yX10_brokenPrint : MethodName := ⟨RX10, "brokenPrint", "(I)I"⟩
abbrev cX10_printStarters : ByteArray := prog_1_method_36_code
def yX10_printStarters : MethodName := ⟨RX10, "printStarters", "()I"⟩
abbrev cX10_printMakers : ByteArray := prog_1_method_37_code
def yX10_printMakers : MethodName := ⟨RX10, "printMakers", "(I)I"⟩
abbrev cX10_printsFailAt : ByteArray := prog_1_method_38_code
def yX10_printsFailAt : MethodName := ⟨RX10, "printsFailAt", "(I)I"⟩
abbrev cX10_cloudySets : ByteArray := prog_1_method_39_code
def yX10_cloudySets : MethodName := ⟨RX10, "cloudySets", "(III)I"⟩
abbrev cX10_servedOutside : ByteArray := prog_1_method_40_code
def yX10_servedOutside : MethodName := ⟨RX10, "servedOutside", "(II)I"⟩
abbrev cX10_areAllPlaces : ByteArray := prog_1_method_41_code
def yX10_areAllPlaces : MethodName := ⟨RX10, "areAllPlaces", "(II)Z"⟩
abbrev cX10_sentencesTogether : ByteArray := prog_1_method_42_code
def yX10_sentencesTogether : MethodName := ⟨RX10, "sentencesTogether", "(III)I"⟩
abbrev cX10_groupSentences : ByteArray := prog_1_method_43_code
def yX10_groupSentences : MethodName := ⟨RX10, "groupSentences", "(II)V"⟩
abbrev cX10_joinGroups : ByteArray := prog_1_method_44_code
def yX10_joinGroups : MethodName := ⟨RX10, "joinGroups", "(III)V"⟩
abbrev cX10_longestOfGroup : ByteArray := prog_1_method_45_code
def yX10_longestOfGroup : MethodName := ⟨RX10, "longestOfGroup", "(II)I"⟩
def RX11 : String := "ShadowCourtModel"
def TX11 : u_T := fun k => match k with
  | 0 => ("ShadowCourtModel", "now", "[I", true)
  | 1 => ("ShadowCourtModel", "aside", "[I", true)
  | 2 => ("ShadowCourtModel", "kept", "[I", true)
  | 3 => ("ShadowCourtModel", "kindOf", "[I", true)
  | 4 => ("ShadowCourtModel", "lampAt", "[I", true)
  | 5 => ("ShadowCourtModel", "walkMany", "[I", true)
  | 6 => ("ShadowCourtModel", "walkStep", "[B", true)
  | 7 => ("ShadowCourtModel", "tape", "[B", true)
  | 8 => ("ShadowCourtModel", "taped", "I", false)
  | 9 => ("ShadowCourtModel", "place0", "I", false)
  | 10 => ("ShadowCourtModel", "length0", "I", false)
  | 11 => ("ShadowCourtModel", "fault", "I", false)
  | 12 => ("ShadowCourtModel", "number0", "I", false)
  | 13 => ("ShadowCourtModel", "open", "I", false)
  | 14 => ("ShadowCourtModel", "codeMany", "I", false)
  | 15 => ("ShadowCourtModel", "waiting", "I", false)
  | 16 => ("ShadowCourtModel", "saidMany", "I", false)
  | 17 => ("ShadowCourtModel", "clauses", "I", false)
  | 18 => ("ShadowCourtModel", "said", "[I", true)
  | 19 => ("ShadowCourtModel", "waitsAt", "[I", true)
  | 20 => ("ShadowCourtModel", "saidLetter", "[I", true)
  | 21 => ("ShadowCourtModel", "saidFrom", "[I", true)
  | 22 => ("ShadowCourtModel", "saidHalf", "[I", true)
  | 23 => ("ShadowCourtModel", "saidTo", "[I", true)
  | 24 => ("ShadowCourtModel", "codes", "[I", true)
  | 25 => ("ShadowCourtModel", "clauseOf", "[I", true)
  | 26 => ("ShadowCourtModel", "codeFrom", "[I", true)
  | 27 => ("ShadowCourtModel", "codeHalf", "[I", true)
  | 28 => ("ShadowCourtModel", "codeTo", "[I", true)
  | 29 => ("ShadowCourtModel", "newKind", "[I", true)
  | 30 => ("ShadowCourtModel", "newStep", "[B", true)
  | 31 => ("ShadowCourtModel", "roundFrom", "[I", true)
  | 32 => ("ShadowCourtModel", "roundAt", "[I", true)
  | 33 => ("ShadowCourtModel", "roundTimes", "[I", true)
  | 34 => ("ShadowCourtModel", "newMany", "I", false)
  | 35 => ("ShadowCourtModel", "rounds", "I", false)
  | 36 => ("ShadowCourtModel", "stepFrom", "I", false)
  | 37 => ("ShadowCourtModel", "stepTimes", "I", false)
  | 38 => ("ShadowCourtModel", "stack", "[I", true)
  | 39 => ("ShadowCourtModel", "facts", "[I", true)
  | 40 => ("ShadowCourtModel", "shades", "[I", true)
  | 41 => ("ShadowCourtModel", "servedNow", "I", false)
  | 42 => ("ShadowCourtModel", "awayNow", "I", false)
  | 43 => ("ShadowCourtModel", "cloudyNow", "I", false)
  | 44 => ("ShadowCourtModel", "stepsNow", "I", false)
  | 45 => ("ShadowCourtModel", "costTo", "[I", true)
  | 46 => ("ShadowCourtModel", "orderOf", "[I", true)
  | 47 => ("ShadowCourtModel", "rankOf", "[I", true)
  | 48 => ("ShadowCourtModel", "goesFirst", "I", false)
  | 49 => ("ShadowCourtModel", "isTaken", "[Z", true)
  | 50 => ("ShadowCourtModel", "canStand", "[Z", true)
  | 51 => ("ShadowCourtModel", "reachOf", "[I", true)
  | 52 => ("ShadowCourtModel", "fewOf", "[I", true)
  | 53 => ("ShadowCourtModel", "fewThen", "[I", true)
  | 54 => ("ShadowCourtModel", "stepsFrom", "[I", true)
  | 55 => ("ShadowCourtModel", "darkOf", "[I", true)
  | 56 => ("ShadowCourtModel", "groupOf", "[I", true)
  | 57 => ("ShadowCourtModel", "longOf", "[I", true)
  | 58 => ("ShadowCourtModel", "isKept", "Z", false)
  | 59 => ("ShadowCourtModel", "keptMany", "[I", true)
  | _ => ("ShadowCourtModel", "keptStep", "[B", true)
def tyX11 : Nat → FieldType := fun k => match k with
  | 0 => .array .int
  | 1 => .array .int
  | 2 => .array .int
  | 3 => .array .int
  | 4 => .array .int
  | 5 => .array .int
  | 6 => .array .byte
  | 7 => .array .byte
  | 8 => .int
  | 9 => .int
  | 10 => .int
  | 11 => .int
  | 12 => .int
  | 13 => .int
  | 14 => .int
  | 15 => .int
  | 16 => .int
  | 17 => .int
  | 18 => .array .int
  | 19 => .array .int
  | 20 => .array .int
  | 21 => .array .int
  | 22 => .array .int
  | 23 => .array .int
  | 24 => .array .int
  | 25 => .array .int
  | 26 => .array .int
  | 27 => .array .int
  | 28 => .array .int
  | 29 => .array .int
  | 30 => .array .byte
  | 31 => .array .int
  | 32 => .array .int
  | 33 => .array .int
  | 34 => .int
  | 35 => .int
  | 36 => .int
  | 37 => .int
  | 38 => .array .int
  | 39 => .array .int
  | 40 => .array .int
  | 41 => .int
  | 42 => .int
  | 43 => .int
  | 44 => .int
  | 45 => .array .int
  | 46 => .array .int
  | 47 => .array .int
  | 48 => .int
  | 49 => .array .boolean
  | 50 => .array .boolean
  | 51 => .array .int
  | 52 => .array .int
  | 53 => .array .int
  | 54 => .array .int
  | 55 => .array .int
  | 56 => .array .int
  | 57 => .array .int
  | 58 => .boolean
  | 59 => .array .int
  | _ => .array .byte
theorem nmX11 : ∀ a, a < 61 → ∀ b, b < 61 → a ≠ b → (TX11 a).2.1 ≠ (TX11 b).2.1 := by decide +kernel
theorem tyX11_ok : ∀ k, k < 61 → parseFieldDescriptor (TX11 k).2.2.1 = some (tyX11 k) := by decide +kernel
abbrev cX11_init : ByteArray := prog_13_method_1_code
def yX11_init : MethodName := ⟨RX11, "<init>", "()V"⟩
abbrev cX11_in : ByteArray := prog_13_method_2_code
def yX11_in : MethodName := ⟨RX11, "in", "(III)Z"⟩
abbrev cX11_min : ByteArray := prog_13_method_3_code
def yX11_min : MethodName := ⟨RX11, "min", "(II)I"⟩
abbrev cX11_max : ByteArray := prog_13_method_4_code
def yX11_max : MethodName := ⟨RX11, "max", "(II)I"⟩
abbrev cX11_has : ByteArray := prog_13_method_6_code
def yX11_has : MethodName := ⟨RX11, "has", "(II)Z"⟩
abbrev cX11_bits : ByteArray := prog_13_method_7_code
def yX11_bits : MethodName := ⟨RX11, "bits", "(I)I"⟩
abbrev cX11_isFive : ByteArray := prog_13_method_8_code
def yX11_isFive : MethodName := ⟨RX11, "isFive", "(II)Z"⟩
abbrev cX11_isJudge : ByteArray := prog_13_method_9_code
def yX11_isJudge : MethodName := ⟨RX11, "isJudge", "(I)Z"⟩
abbrev cX11_isFelon : ByteArray := prog_13_method_10_code
def yX11_isFelon : MethodName := ⟨RX11, "isFelon", "(I)Z"⟩
abbrev cX11_owes : ByteArray := prog_13_method_11_code
def yX11_owes : MethodName := ⟨RX11, "owes", "(I)Z"⟩
abbrev cX11_isOn : ByteArray := prog_13_method_12_code
def yX11_isOn : MethodName := ⟨RX11, "isOn", "(II)Z"⟩
abbrev cX11_isGround : ByteArray := prog_13_method_13_code
def yX11_isGround : MethodName := ⟨RX11, "isGround", "(I)Z"⟩
abbrev cX11_wayX : ByteArray := prog_13_method_14_code
def yX11_wayX : MethodName := ⟨RX11, "wayX", "(I)I"⟩
abbrev cX11_wayY : ByteArray := prog_13_method_15_code
def yX11_wayY : MethodName := ⟨RX11, "wayY", "(I)I"⟩
abbrev cX11_beside : ByteArray := prog_13_method_16_code
def yX11_beside : MethodName := ⟨RX11, "beside", "(II)I"⟩
abbrev cX11_types : ByteArray := prog_13_method_17_code
def yX11_types : MethodName := ⟨RX11, "types", "(I)V"⟩
abbrev cX11_feed : ByteArray := prog_13_method_18_code
def yX11_feed : MethodName := ⟨RX11, "feed", "(IIIII)I"⟩
abbrev cX11_here : ByteArray := prog_13_method_19_code
def yX11_here : MethodName := ⟨RX11, "here", "()I"⟩
abbrev cX11_isDigit : ByteArray := prog_13_method_20_code
def yX11_isDigit : MethodName := ⟨RX11, "isDigit", "()Z"⟩
abbrev cX11_wrongAt : ByteArray := prog_13_method_21_code
def yX11_wrongAt : MethodName := ⟨RX11, "wrongAt", "(II)Z"⟩
abbrev cX11_takes : ByteArray := prog_13_method_22_code
def yX11_takes : MethodName := ⟨RX11, "takes", "(I)Z"⟩
abbrev cX11_readsNumber : ByteArray := prog_13_method_23_code
def yX11_readsNumber : MethodName := ⟨RX11, "readsNumber", "()Z"⟩
abbrev cX11_notes : ByteArray := prog_13_method_24_code
def yX11_notes : MethodName := ⟨RX11, "notes", "(II)V"⟩
abbrev cX11_opens : ByteArray := prog_13_method_25_code
def yX11_opens : MethodName := ⟨RX11, "opens", "(I)Z"⟩
abbrev cX11_waitTop : ByteArray := prog_13_method_26_code
def yX11_waitTop : MethodName := ⟨RX11, "waitTop", "()I"⟩
abbrev cX11_factOf : ByteArray := prog_13_method_27_code
def yX11_factOf : MethodName := ⟨RX11, "factOf", "(I)I"⟩
abbrev cX11_sumSign : ByteArray := prog_13_method_28_code
def yX11_sumSign : MethodName := ⟨RX11, "sumSign", "(I)I"⟩
abbrev cX11_closesSums : ByteArray := prog_13_method_29_code
def yX11_closesSums : MethodName := ⟨RX11, "closesSums", "(Z)V"⟩
abbrev cX11_readsFactor : ByteArray := prog_13_method_30_code
def yX11_readsFactor : MethodName := ⟨RX11, "readsFactor", "()Z"⟩
abbrev cX11_hasOpenSum : ByteArray := prog_13_method_31_code
def yX11_hasOpenSum : MethodName := ⟨RX11, "hasOpenSum", "(I)Z"⟩
abbrev cX11_readsSum : ByteArray := prog_13_method_32_code
def yX11_readsSum : MethodName := ⟨RX11, "readsSum", "()Z"⟩
abbrev cX11_endsPiece : ByteArray := prog_13_method_33_code
def yX11_endsPiece : MethodName := ⟨RX11, "endsPiece", "()V"⟩
abbrev cX11_lands : ByteArray := prog_13_method_34_code
def yX11_lands : MethodName := ⟨RX11, "lands", "(Z)V"⟩
abbrev cX11_jumps : ByteArray := prog_13_method_35_code
def yX11_jumps : MethodName := ⟨RX11, "jumps", "(I)V"⟩
abbrev cX11_readsCompared : ByteArray := prog_13_method_36_code
def yX11_readsCompared : MethodName := ⟨RX11, "readsCompared", "()Z"⟩
abbrev cX11_readsCondition : ByteArray := prog_13_method_37_code
def yX11_readsCondition : MethodName := ⟨RX11, "readsCondition", "()Z"⟩
abbrev cX11_isSpotSign : ByteArray := prog_13_method_38_code
def yX11_isSpotSign : MethodName := ⟨RX11, "isSpotSign", "(I)Z"⟩
abbrev cX11_isTimes : ByteArray := prog_13_method_39_code
def yX11_isTimes : MethodName := ⟨RX11, "isTimes", "(I)Z"⟩
abbrev cX11_readsRow : ByteArray := prog_13_method_40_code
def yX11_readsRow : MethodName := ⟨RX11, "readsRow", "(I)Z"⟩
abbrev cX11_market : ByteArray := prog_13_method_41_code
def yX11_market : MethodName := ⟨RX11, "market", "(I)I"⟩
abbrev cX11_judge : ByteArray := prog_13_method_42_code
def yX11_judge : MethodName := ⟨RX11, "judge", "(III)Z"⟩
abbrev cX11_felon : ByteArray := prog_13_method_43_code
def yX11_felon : MethodName := ⟨RX11, "felon", "(IIII)Z"⟩
abbrev cX11_lamp : ByteArray := prog_13_method_44_code
def yX11_lamp : MethodName := ⟨RX11, "lamp", "(III)Z"⟩
abbrev cX11_wayOf : ByteArray := prog_13_method_45_code
def yX11_wayOf : MethodName := ⟨RX11, "wayOf", "(I)I"⟩
abbrev cX11_repeats : ByteArray := prog_13_method_46_code
def yX11_repeats : MethodName := ⟨RX11, "repeats", "(III)Z"⟩
abbrev cX11_readsTimes : ByteArray := prog_13_method_47_code
def yX11_readsTimes : MethodName := ⟨RX11, "readsTimes", "()V"⟩
abbrev cX11_readsStep : ByteArray := prog_13_method_48_code
def yX11_readsStep : MethodName := ⟨RX11, "readsStep", "()Z"⟩
abbrev cX11_walk : ByteArray := prog_13_method_49_code
def yX11_walk : MethodName := ⟨RX11, "walk", "(II)I"⟩
abbrev cX11_isClause : ByteArray := prog_13_method_50_code
def yX11_isClause : MethodName := ⟨RX11, "isClause", "(I)Z"⟩
abbrev cX11_readsClause : ByteArray := prog_13_method_51_code
def yX11_readsClause : MethodName := ⟨RX11, "readsClause", "()Z"⟩
abbrev cX11_law : ByteArray := prog_13_method_52_code
def yX11_law : MethodName := ⟨RX11, "law", "(I)I"⟩
abbrev cX11_reckon : ByteArray := prog_13_method_53_code
def yX11_reckon : MethodName := ⟨RX11, "reckon", "(III)I"⟩
abbrev cX11_comesTo : ByteArray := prog_13_method_54_code
def yX11_comesTo : MethodName := ⟨RX11, "comesTo", "(II)I"⟩
abbrev cX11_byLaw : ByteArray := prog_13_method_55_code
def yX11_byLaw : MethodName := ⟨RX11, "byLaw", "(II)I"⟩
abbrev cX11_feels : ByteArray := prog_13_method_56_code
def yX11_feels : MethodName := ⟨RX11, "feels", "(I)V"⟩
abbrev cX11_isNight : ByteArray := prog_13_method_57_code
def yX11_isNight : MethodName := ⟨RX11, "isNight", "(I)Z"⟩
abbrev cX11_byFelon : ByteArray := prog_13_method_58_code
def yX11_byFelon : MethodName := ⟨RX11, "byFelon", "(III)I"⟩
abbrev cX11_falls : ByteArray := prog_13_method_59_code
def yX11_falls : MethodName := ⟨RX11, "falls", "(III)V"⟩
abbrev cX11_fallsOf : ByteArray := prog_13_method_60_code
def yX11_fallsOf : MethodName := ⟨RX11, "fallsOf", "(II)V"⟩
abbrev cX11_fallsBehind : ByteArray := prog_13_method_61_code
def yX11_fallsBehind : MethodName := ⟨RX11, "fallsBehind", "(II)V"⟩
abbrev cX11_bares : ByteArray := prog_13_method_62_code
def yX11_bares : MethodName := ⟨RX11, "bares", "()V"⟩
abbrev cX11_fallsByLamps : ByteArray := prog_13_method_63_code
def yX11_fallsByLamps : MethodName := ⟨RX11, "fallsByLamps", "()V"⟩
abbrev cX11_laysShades : ByteArray := prog_13_method_64_code
def yX11_laysShades : MethodName := ⟨RX11, "laysShades", "(IZ)V"⟩
abbrev cX11_steps : ByteArray := prog_13_method_65_code
def yX11_steps : MethodName := ⟨RX11, "steps", "(II)V"⟩
abbrev cX11_walksOn : ByteArray := prog_13_method_66_code
def yX11_walksOn : MethodName := ⟨RX11, "walksOn", "(I)V"⟩
abbrev cX11_laysCosts : ByteArray := prog_13_method_67_code
def yX11_laysCosts : MethodName := ⟨RX11, "laysCosts", "(IIZ)V"⟩
abbrev cX11_laysOrder : ByteArray := prog_13_method_68_code
def yX11_laysOrder : MethodName := ⟨RX11, "laysOrder", "()I"⟩
abbrev cX11_findsFor : ByteArray := prog_13_method_69_code
def yX11_findsFor : MethodName := ⟨RX11, "findsFor", "(I)I"⟩
abbrev cX11_servesOf : ByteArray := prog_13_method_70_code
def yX11_servesOf : MethodName := ⟨RX11, "servesOf", "(IZ)V"⟩
abbrev cX11_draws : ByteArray := prog_13_method_71_code
def yX11_draws : MethodName := ⟨RX11, "draws", "()I"⟩
abbrev cX11_shadesGo : ByteArray := prog_13_method_72_code
def yX11_shadesGo : MethodName := ⟨RX11, "shadesGo", "()V"⟩
abbrev cX11_begins : ByteArray := prog_13_method_73_code
def yX11_begins : MethodName := ⟨RX11, "begins", "()V"⟩
abbrev cX11_minutesGo : ByteArray := prog_13_method_74_code
def yX11_minutesGo : MethodName := ⟨RX11, "minutesGo", "(I)V"⟩
abbrev cX11_minutes : ByteArray := prog_13_method_75_code
def yX11_minutes : MethodName := ⟨RX11, "minutes", "(I)I"⟩
abbrev cX11_copies : ByteArray := prog_13_method_76_code
def yX11_copies : MethodName := ⟨RX11, "copies", "([I[I)V"⟩
abbrev cX11_freeMany : ByteArray := prog_13_method_77_code
def yX11_freeMany : MethodName := ⟨RX11, "freeMany", "()I"⟩
abbrev cX11_tried : ByteArray := prog_13_method_78_code
def yX11_tried : MethodName := ⟨RX11, "tried", "(II)I"⟩
abbrev cX11_felonIs : ByteArray := prog_13_method_79_code
def yX11_felonIs : MethodName := ⟨RX11, "felonIs", "(II)I"⟩
abbrev cX11_shade : ByteArray := prog_13_method_80_code
def yX11_shade : MethodName := ⟨RX11, "shade", "(II)I"⟩
abbrev cX11_laysReach : ByteArray := prog_13_method_81_code
def yX11_laysReach : MethodName := ⟨RX11, "laysReach", "()V"⟩
abbrev cX11_mostAtOnce : ByteArray := prog_13_method_82_code
def yX11_mostAtOnce : MethodName := ⟨RX11, "mostAtOnce", "()I"⟩
abbrev cX11_atOnce : ByteArray := prog_13_method_83_code
def yX11_atOnce : MethodName := ⟨RX11, "atOnce", "(I)I"⟩
abbrev cX11_laysSteps : ByteArray := prog_13_method_84_code
def yX11_laysSteps : MethodName := ⟨RX11, "laysSteps", "()V"⟩
abbrev cX11_goesFew : ByteArray := prog_13_method_85_code
def yX11_goesFew : MethodName := ⟨RX11, "goesFew", "(I)V"⟩
abbrev cX11_fewest : ByteArray := prog_13_method_86_code
def yX11_fewest : MethodName := ⟨RX11, "fewest", "(III)I"⟩
abbrev cX11_stepIn : ByteArray := prog_13_method_87_code
def yX11_stepIn : MethodName := ⟨RX11, "stepIn", "(III)I"⟩
abbrev cX11_servedIn : ByteArray := prog_13_method_88_code
def yX11_servedIn : MethodName := ⟨RX11, "servedIn", "(III)I"⟩
abbrev cX11_home : ByteArray := prog_13_method_89_code
def yX11_home : MethodName := ⟨RX11, "home", "(III)I"⟩
abbrev cX11_isFree : ByteArray := prog_13_method_90_code
def yX11_isFree : MethodName := ⟨RX11, "isFree", "(I)Z"⟩
abbrev cX11_hung : ByteArray := prog_13_method_91_code
def yX11_hung : MethodName := ⟨RX11, "hung", "(I)I"⟩
abbrev cX11_servedFirst : ByteArray := prog_13_method_92_code
def yX11_servedFirst : MethodName := ⟨RX11, "servedFirst", "(II)I"⟩
abbrev cX11_first : ByteArray := prog_13_method_93_code
def yX11_first : MethodName := ⟨RX11, "first", "(II)I"⟩
abbrev cX11_laysDark : ByteArray := prog_13_method_94_code
def yX11_laysDark : MethodName := ⟨RX11, "laysDark", "(I)V"⟩
abbrev cX11_dark : ByteArray := prog_13_method_95_code
def yX11_dark : MethodName := ⟨RX11, "dark", "(II)I"⟩
abbrev cX11_areSpots : ByteArray := prog_13_method_96_code
def yX11_areSpots : MethodName := ⟨RX11, "areSpots", "(I)Z"⟩
abbrev cX11_failsAt : ByteArray := prog_13_method_97_code
def yX11_failsAt : MethodName := ⟨RX11, "failsAt", "(I)I"⟩
abbrev cX11_prints : ByteArray := prog_13_method_98_code
def yX11_prints : MethodName := ⟨RX11, "prints", "(II)I"⟩
abbrev cX11_cloudy : ByteArray := prog_13_method_99_code
def yX11_cloudy : MethodName := ⟨RX11, "cloudy", "(III)I"⟩
abbrev cX11_together : ByteArray := prog_13_method_100_code
def yX11_together : MethodName := ⟨RX11, "together", "(II)I"⟩
abbrev cX11_binds : ByteArray := prog_13_method_101_code
def yX11_binds : MethodName := ⟨RX11, "binds", "(III)V"⟩
abbrev cX11_servedBy : ByteArray := prog_13_method_102_code
def yX11_servedBy : MethodName := ⟨RX11, "servedBy", "(II)I"⟩
abbrev cX11_seed : ByteArray := prog_13_method_103_code
def yX11_seed : MethodName := ⟨RX11, "seed", "(I)Z"⟩
abbrev cX11_copiesWalks : ByteArray := prog_13_method_104_code
def yX11_copiesWalks : MethodName := ⟨RX11, "copiesWalks", "([I[B[I[B)V"⟩
abbrev cX11_keep : ByteArray := prog_13_method_105_code
def yX11_keep : MethodName := ⟨RX11, "keep", "()I"⟩
abbrev cX11_undo : ByteArray := prog_13_method_106_code
def yX11_undo : MethodName := ⟨RX11, "undo", "()Z"⟩
abbrev cX11_tapeNumber : ByteArray := prog_13_method_107_code
def yX11_tapeNumber : MethodName := ⟨RX11, "tapeNumber", "(I)I"⟩
abbrev cX11_check : ByteArray := prog_13_method_108_code
def yX11_check : MethodName := ⟨RX11, "check", "(I)I"⟩
abbrev cX11_owedAll : ByteArray := prog_13_method_109_code
def yX11_owedAll : MethodName := ⟨RX11, "owedAll", "()I"⟩
abbrev cX11_lampSet : ByteArray := prog_13_method_110_code
def yX11_lampSet : MethodName := ⟨RX11, "lampSet", "()I"⟩
abbrev cX11_count : ByteArray := prog_13_method_111_code
def yX11_count : MethodName := ⟨RX11, "count", "(I)I"⟩
abbrev cL_law : ByteArray := code
abbrev vwCl : List vw_C := [(RX0, TX0, 6), (RX1, TX1, 6), (RX2, TX2, 12), (RX3, TX3, 11), (RX4, TX4, 9), (RX5, TX5, 2), (RX6, TX6, 5), (RX7, TX7, 4), (RX8, TX8, 5), (RX9, TX9, 3), (RX10, TX10, 12), (RX11, TX11, 61)]


