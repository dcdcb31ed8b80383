section
-- ===== PART A: goes FIRST, ahead of the names: the tables' words, and 'selects' of the private methods out of them =====
/-- a private method of a class that the tables say can be made, by its rows of tables_1 -/
def lw_okq (q : MethodName × Nat) : Prop := (q.1.cls ≠ "java/lang/invoke/MethodHandle" ∧ q.1.cls ≠ "java/lang/invoke/VarHandle") ∧ Cond.instantiable q.1.cls q.2 ∈ tables_1 ∧ Cond.privateMethod q.1 ∈ tables_1 ∧ Cond.instanceMethod q.1 ∈ tables_1
theorem lw_p0 : lw_okq (⟨"ShadowCourt$Tape", "putNumber", "(I)V"⟩, 5) := ⟨⟨by decide +kernel, by decide +kernel⟩, List.mem_of_getElem? (i := 24) (by decide +kernel), List.mem_of_getElem? (i := 387) (by decide +kernel), List.mem_of_getElem? (i := 388) (by decide +kernel)⟩
theorem lw_p1 : lw_okq (⟨"ShadowCourt$Tape", "open", "(I)V"⟩, 5) := ⟨⟨by decide +kernel, by decide +kernel⟩, List.mem_of_getElem? (i := 24) (by decide +kernel), List.mem_of_getElem? (i := 398) (by decide +kernel), List.mem_of_getElem? (i := 399) (by decide +kernel)⟩
theorem lw_p2 : lw_okq (⟨"ShadowCourt$Market", "readFrom", "(LShadowCourt$Tape;)Z"⟩, 5) := ⟨⟨by decide +kernel, by decide +kernel⟩, List.mem_of_getElem? (i := 52) (by decide +kernel), List.mem_of_getElem? (i := 405) (by decide +kernel), List.mem_of_getElem? (i := 406) (by decide +kernel)⟩
theorem lw_p3 : lw_okq (⟨"ShadowCourt$Market", "readRow", "(LShadowCourt$Tape;I)Z"⟩, 5) := ⟨⟨by decide +kernel, by decide +kernel⟩, List.mem_of_getElem? (i := 52) (by decide +kernel), List.mem_of_getElem? (i := 409) (by decide +kernel), List.mem_of_getElem? (i := 410) (by decide +kernel)⟩
theorem lw_p4 : lw_okq (⟨"ShadowCourt$Tape", "sign", "()I"⟩, 5) := ⟨⟨by decide +kernel, by decide +kernel⟩, List.mem_of_getElem? (i := 24) (by decide +kernel), List.mem_of_getElem? (i := 413) (by decide +kernel), List.mem_of_getElem? (i := 414) (by decide +kernel)⟩
theorem lw_p5 : lw_okq (⟨"ShadowCourt$Tape", "fails", "(II)Z"⟩, 5) := ⟨⟨by decide +kernel, by decide +kernel⟩, List.mem_of_getElem? (i := 24) (by decide +kernel), List.mem_of_getElem? (i := 420) (by decide +kernel), List.mem_of_getElem? (i := 421) (by decide +kernel)⟩
theorem lw_p6 : lw_okq (⟨"ShadowCourt$Tape", "passes", "(I)Z"⟩, 5) := ⟨⟨by decide +kernel, by decide +kernel⟩, List.mem_of_getElem? (i := 24) (by decide +kernel), List.mem_of_getElem? (i := 430) (by decide +kernel), List.mem_of_getElem? (i := 431) (by decide +kernel)⟩
theorem lw_p7 : lw_okq (⟨"ShadowCourt$Tape", "drop", "()V"⟩, 5) := ⟨⟨by decide +kernel, by decide +kernel⟩, List.mem_of_getElem? (i := 24) (by decide +kernel), List.mem_of_getElem? (i := 439) (by decide +kernel), List.mem_of_getElem? (i := 440) (by decide +kernel)⟩
theorem lw_p8 : lw_okq (⟨"ShadowCourt", "sendAwayWhoCannotStand", "()V"⟩, 12) := ⟨⟨by decide +kernel, by decide +kernel⟩, List.mem_of_getElem? (i := 16) (by decide +kernel), List.mem_of_getElem? (i := 443) (by decide +kernel), List.mem_of_getElem? (i := 444) (by decide +kernel)⟩
theorem lw_p9 : lw_okq (⟨"ShadowCourt$Market", "isOpen", "(I)Z"⟩, 5) := ⟨⟨by decide +kernel, by decide +kernel⟩, List.mem_of_getElem? (i := 52) (by decide +kernel), List.mem_of_getElem? (i := 447) (by decide +kernel), List.mem_of_getElem? (i := 448) (by decide +kernel)⟩
theorem lw_p10 : lw_okq (⟨"ShadowCourt$Market", "kindAt", "(I)I"⟩, 5) := ⟨⟨by decide +kernel, by decide +kernel⟩, List.mem_of_getElem? (i := 52) (by decide +kernel), List.mem_of_getElem? (i := 451) (by decide +kernel), List.mem_of_getElem? (i := 452) (by decide +kernel)⟩
theorem lw_p11 : lw_okq (⟨"ShadowCourt$Day", "setFelon", "(III)V"⟩, 12) := ⟨⟨by decide +kernel, by decide +kernel⟩, List.mem_of_getElem? (i := 210) (by decide +kernel), List.mem_of_getElem? (i := 455) (by decide +kernel), List.mem_of_getElem? (i := 456) (by decide +kernel)⟩
theorem lw_p12 : lw_okq (⟨"ShadowCourt$Market", "howMany", "(I)I"⟩, 5) := ⟨⟨by decide +kernel, by decide +kernel⟩, List.mem_of_getElem? (i := 52) (by decide +kernel), List.mem_of_getElem? (i := 459) (by decide +kernel), List.mem_of_getElem? (i := 460) (by decide +kernel)⟩
theorem lw_p13 : lw_okq (⟨"ShadowCourt$LawReader", "readWhole", "()Z"⟩, 2) := ⟨⟨by decide +kernel, by decide +kernel⟩, List.mem_of_getElem? (i := 119) (by decide +kernel), List.mem_of_getElem? (i := 467) (by decide +kernel), List.mem_of_getElem? (i := 468) (by decide +kernel)⟩
theorem lw_p14 : lw_okq (⟨"ShadowCourt$Law", "empty", "()V"⟩, 9) := ⟨⟨by decide +kernel, by decide +kernel⟩, List.mem_of_getElem? (i := 77) (by decide +kernel), List.mem_of_getElem? (i := 471) (by decide +kernel), List.mem_of_getElem? (i := 472) (by decide +kernel)⟩
theorem lw_p15 : lw_okq (⟨"ShadowCourt$LawReader", "readClause", "(II)Z"⟩, 2) := ⟨⟨by decide +kernel, by decide +kernel⟩, List.mem_of_getElem? (i := 119) (by decide +kernel), List.mem_of_getElem? (i := 480) (by decide +kernel), List.mem_of_getElem? (i := 481) (by decide +kernel)⟩
def lw_privs_1 : List (MethodName × Nat) := [(⟨"ShadowCourt$Tape", "putNumber", "(I)V"⟩, 5), (⟨"ShadowCourt$Tape", "open", "(I)V"⟩, 5), (⟨"ShadowCourt$Market", "readFrom", "(LShadowCourt$Tape;)Z"⟩, 5), (⟨"ShadowCourt$Market", "readRow", "(LShadowCourt$Tape;I)Z"⟩, 5), (⟨"ShadowCourt$Tape", "sign", "()I"⟩, 5), (⟨"ShadowCourt$Tape", "fails", "(II)Z"⟩, 5), (⟨"ShadowCourt$Tape", "passes", "(I)Z"⟩, 5), (⟨"ShadowCourt$Tape", "drop", "()V"⟩, 5), (⟨"ShadowCourt", "sendAwayWhoCannotStand", "()V"⟩, 12), (⟨"ShadowCourt$Market", "isOpen", "(I)Z"⟩, 5), (⟨"ShadowCourt$Market", "kindAt", "(I)I"⟩, 5), (⟨"ShadowCourt$Day", "setFelon", "(III)V"⟩, 12), (⟨"ShadowCourt$Market", "howMany", "(I)I"⟩, 5), (⟨"ShadowCourt$LawReader", "readWhole", "()Z"⟩, 2), (⟨"ShadowCourt$Law", "empty", "()V"⟩, 9), (⟨"ShadowCourt$LawReader", "readClause", "(II)Z"⟩, 2)]
theorem lw_r1 : ∀ q ∈ lw_privs_1, lw_okq q := List.forall_mem_cons.mpr ⟨lw_p0, List.forall_mem_cons.mpr ⟨lw_p1, List.forall_mem_cons.mpr ⟨lw_p2, List.forall_mem_cons.mpr ⟨lw_p3, List.forall_mem_cons.mpr ⟨lw_p4, List.forall_mem_cons.mpr ⟨lw_p5, List.forall_mem_cons.mpr ⟨lw_p6, List.forall_mem_cons.mpr ⟨lw_p7, List.forall_mem_cons.mpr ⟨lw_p8, List.forall_mem_cons.mpr ⟨lw_p9, List.forall_mem_cons.mpr ⟨lw_p10, List.forall_mem_cons.mpr ⟨lw_p11, List.forall_mem_cons.mpr ⟨lw_p12, List.forall_mem_cons.mpr ⟨lw_p13, List.forall_mem_cons.mpr ⟨lw_p14, List.forall_mem_cons.mpr ⟨lw_p15, fun _ h => absurd h List.not_mem_nil⟩⟩⟩⟩⟩⟩⟩⟩⟩⟩⟩⟩⟩⟩⟩⟩
theorem lw_p16 : lw_okq (⟨"ShadowCourt$LawReader", "readSum", "(I)Z"⟩, 2) := ⟨⟨by decide +kernel, by decide +kernel⟩, List.mem_of_getElem? (i := 119) (by decide +kernel), List.mem_of_getElem? (i := 484) (by decide +kernel), List.mem_of_getElem? (i := 485) (by decide +kernel)⟩
theorem lw_p17 : lw_okq (⟨"ShadowCourt$LawReader", "readTerm", "(I)Z"⟩, 2) := ⟨⟨by decide +kernel, by decide +kernel⟩, List.mem_of_getElem? (i := 119) (by decide +kernel), List.mem_of_getElem? (i := 488) (by decide +kernel), List.mem_of_getElem? (i := 489) (by decide +kernel)⟩
theorem lw_p18 : lw_okq (⟨"ShadowCourt$LawReader", "readFactor", "(I)Z"⟩, 2) := ⟨⟨by decide +kernel, by decide +kernel⟩, List.mem_of_getElem? (i := 119) (by decide +kernel), List.mem_of_getElem? (i := 492) (by decide +kernel), List.mem_of_getElem? (i := 493) (by decide +kernel)⟩
theorem lw_p19 : lw_okq (⟨"ShadowCourt$Tape", "isDigit", "()Z"⟩, 5) := ⟨⟨by decide +kernel, by decide +kernel⟩, List.mem_of_getElem? (i := 24) (by decide +kernel), List.mem_of_getElem? (i := 496) (by decide +kernel), List.mem_of_getElem? (i := 497) (by decide +kernel)⟩
theorem lw_p20 : lw_okq (⟨"ShadowCourt$LawReader", "readNumber", "()Z"⟩, 2) := ⟨⟨by decide +kernel, by decide +kernel⟩, List.mem_of_getElem? (i := 119) (by decide +kernel), List.mem_of_getElem? (i := 500) (by decide +kernel), List.mem_of_getElem? (i := 501) (by decide +kernel)⟩
theorem lw_p21 : lw_okq (⟨"ShadowCourt$Law", "put", "(II)I"⟩, 9) := ⟨⟨by decide +kernel, by decide +kernel⟩, List.mem_of_getElem? (i := 77) (by decide +kernel), List.mem_of_getElem? (i := 504) (by decide +kernel), List.mem_of_getElem? (i := 505) (by decide +kernel)⟩
theorem lw_p22 : lw_okq (⟨"ShadowCourt$LawReader", "readParts", "(I)Z"⟩, 2) := ⟨⟨by decide +kernel, by decide +kernel⟩, List.mem_of_getElem? (i := 119) (by decide +kernel), List.mem_of_getElem? (i := 512) (by decide +kernel), List.mem_of_getElem? (i := 513) (by decide +kernel)⟩
theorem lw_p23 : lw_okq (⟨"ShadowCourt$LawReader", "readPieces", "(I)Z"⟩, 2) := ⟨⟨by decide +kernel, by decide +kernel⟩, List.mem_of_getElem? (i := 119) (by decide +kernel), List.mem_of_getElem? (i := 516) (by decide +kernel), List.mem_of_getElem? (i := 517) (by decide +kernel)⟩
theorem lw_p24 : lw_okq (⟨"ShadowCourt$LawReader", "readPiece", "(I)Z"⟩, 2) := ⟨⟨by decide +kernel, by decide +kernel⟩, List.mem_of_getElem? (i := 119) (by decide +kernel), List.mem_of_getElem? (i := 520) (by decide +kernel), List.mem_of_getElem? (i := 521) (by decide +kernel)⟩
theorem lw_p25 : lw_okq (⟨"ShadowCourt$Law", "landSkip", "(I)V"⟩, 9) := ⟨⟨by decide +kernel, by decide +kernel⟩, List.mem_of_getElem? (i := 77) (by decide +kernel), List.mem_of_getElem? (i := 524) (by decide +kernel), List.mem_of_getElem? (i := 525) (by decide +kernel)⟩
theorem lw_p26 : lw_okq (⟨"ShadowCourt$Law", "copyFrom", "(LShadowCourt$Law;)V"⟩, 9) := ⟨⟨by decide +kernel, by decide +kernel⟩, List.mem_of_getElem? (i := 77) (by decide +kernel), List.mem_of_getElem? (i := 528) (by decide +kernel), List.mem_of_getElem? (i := 529) (by decide +kernel)⟩
theorem lw_p27 : lw_okq (⟨"ShadowCourt$Market", "openSpot", "(II)I"⟩, 5) := ⟨⟨by decide +kernel, by decide +kernel⟩, List.mem_of_getElem? (i := 52) (by decide +kernel), List.mem_of_getElem? (i := 537) (by decide +kernel), List.mem_of_getElem? (i := 538) (by decide +kernel)⟩
theorem lw_p28 : lw_okq (⟨"ShadowCourt$WalkReader", "readWhole", "()Z"⟩, 3) := ⟨⟨by decide +kernel, by decide +kernel⟩, List.mem_of_getElem? (i := 135) (by decide +kernel), List.mem_of_getElem? (i := 549) (by decide +kernel), List.mem_of_getElem? (i := 550) (by decide +kernel)⟩
theorem lw_p29 : lw_okq (⟨"ShadowCourt$WalkReader", "readSteps", "(I)Z"⟩, 3) := ⟨⟨by decide +kernel, by decide +kernel⟩, List.mem_of_getElem? (i := 135) (by decide +kernel), List.mem_of_getElem? (i := 553) (by decide +kernel), List.mem_of_getElem? (i := 554) (by decide +kernel)⟩
theorem lw_p30 : lw_okq (⟨"ShadowCourt$WalkReader", "readStep", "(I)Z"⟩, 3) := ⟨⟨by decide +kernel, by decide +kernel⟩, List.mem_of_getElem? (i := 135) (by decide +kernel), List.mem_of_getElem? (i := 557) (by decide +kernel), List.mem_of_getElem? (i := 558) (by decide +kernel)⟩
theorem lw_p31 : lw_okq (⟨"ShadowCourt$WalkReader", "repeat", "(II)Z"⟩, 3) := ⟨⟨by decide +kernel, by decide +kernel⟩, List.mem_of_getElem? (i := 135) (by decide +kernel), List.mem_of_getElem? (i := 564) (by decide +kernel), List.mem_of_getElem? (i := 565) (by decide +kernel)⟩
def lw_privs_2 : List (MethodName × Nat) := [(⟨"ShadowCourt$LawReader", "readSum", "(I)Z"⟩, 2), (⟨"ShadowCourt$LawReader", "readTerm", "(I)Z"⟩, 2), (⟨"ShadowCourt$LawReader", "readFactor", "(I)Z"⟩, 2), (⟨"ShadowCourt$Tape", "isDigit", "()Z"⟩, 5), (⟨"ShadowCourt$LawReader", "readNumber", "()Z"⟩, 2), (⟨"ShadowCourt$Law", "put", "(II)I"⟩, 9), (⟨"ShadowCourt$LawReader", "readParts", "(I)Z"⟩, 2), (⟨"ShadowCourt$LawReader", "readPieces", "(I)Z"⟩, 2), (⟨"ShadowCourt$LawReader", "readPiece", "(I)Z"⟩, 2), (⟨"ShadowCourt$Law", "landSkip", "(I)V"⟩, 9), (⟨"ShadowCourt$Law", "copyFrom", "(LShadowCourt$Law;)V"⟩, 9), (⟨"ShadowCourt$Market", "openSpot", "(II)I"⟩, 5), (⟨"ShadowCourt$WalkReader", "readWhole", "()Z"⟩, 3), (⟨"ShadowCourt$WalkReader", "readSteps", "(I)Z"⟩, 3), (⟨"ShadowCourt$WalkReader", "readStep", "(I)Z"⟩, 3), (⟨"ShadowCourt$WalkReader", "repeat", "(II)Z"⟩, 3)]
theorem lw_r2 : ∀ q ∈ lw_privs_2, lw_okq q := List.forall_mem_cons.mpr ⟨lw_p16, List.forall_mem_cons.mpr ⟨lw_p17, List.forall_mem_cons.mpr ⟨lw_p18, List.forall_mem_cons.mpr ⟨lw_p19, List.forall_mem_cons.mpr ⟨lw_p20, List.forall_mem_cons.mpr ⟨lw_p21, List.forall_mem_cons.mpr ⟨lw_p22, List.forall_mem_cons.mpr ⟨lw_p23, List.forall_mem_cons.mpr ⟨lw_p24, List.forall_mem_cons.mpr ⟨lw_p25, List.forall_mem_cons.mpr ⟨lw_p26, List.forall_mem_cons.mpr ⟨lw_p27, List.forall_mem_cons.mpr ⟨lw_p28, List.forall_mem_cons.mpr ⟨lw_p29, List.forall_mem_cons.mpr ⟨lw_p30, List.forall_mem_cons.mpr ⟨lw_p31, fun _ h => absurd h List.not_mem_nil⟩⟩⟩⟩⟩⟩⟩⟩⟩⟩⟩⟩⟩⟩⟩⟩
theorem lw_p32 : lw_okq (⟨"ShadowCourt$WalkReader", "copyOfSteps", "()[I"⟩, 3) := ⟨⟨by decide +kernel, by decide +kernel⟩, List.mem_of_getElem? (i := 135) (by decide +kernel), List.mem_of_getElem? (i := 571) (by decide +kernel), List.mem_of_getElem? (i := 572) (by decide +kernel)⟩
theorem lw_p33 : lw_okq (⟨"ShadowCourt$Day", "setWalk", "(I[I)V"⟩, 12) := ⟨⟨by decide +kernel, by decide +kernel⟩, List.mem_of_getElem? (i := 210) (by decide +kernel), List.mem_of_getElem? (i := 577) (by decide +kernel), List.mem_of_getElem? (i := 578) (by decide +kernel)⟩
theorem lw_p34 : lw_okq (⟨"ShadowCourt$Clock", "goOn", "(LShadowCourt$Day;II)I"⟩, 6) := ⟨⟨by decide +kernel, by decide +kernel⟩, List.mem_of_getElem? (i := 152) (by decide +kernel), List.mem_of_getElem? (i := 593) (by decide +kernel), List.mem_of_getElem? (i := 594) (by decide +kernel)⟩
theorem lw_p35 : lw_okq (⟨"ShadowCourt$Day", "owedByAll", "()I"⟩, 12) := ⟨⟨by decide +kernel, by decide +kernel⟩, List.mem_of_getElem? (i := 210) (by decide +kernel), List.mem_of_getElem? (i := 597) (by decide +kernel), List.mem_of_getElem? (i := 598) (by decide +kernel)⟩
theorem lw_p36 : lw_okq (⟨"ShadowCourt$Clock", "judgesStep", "(LShadowCourt$Day;)V"⟩, 6) := ⟨⟨by decide +kernel, by decide +kernel⟩, List.mem_of_getElem? (i := 152) (by decide +kernel), List.mem_of_getElem? (i := 601) (by decide +kernel), List.mem_of_getElem? (i := 602) (by decide +kernel)⟩
theorem lw_p37 : lw_okq (⟨"ShadowCourt$Day", "hasJudge", "(I)Z"⟩, 12) := ⟨⟨by decide +kernel, by decide +kernel⟩, List.mem_of_getElem? (i := 210) (by decide +kernel), List.mem_of_getElem? (i := 605) (by decide +kernel), List.mem_of_getElem? (i := 606) (by decide +kernel)⟩
theorem lw_p38 : lw_okq (⟨"ShadowCourt$Day", "takeStep", "(I)I"⟩, 12) := ⟨⟨by decide +kernel, by decide +kernel⟩, List.mem_of_getElem? (i := 210) (by decide +kernel), List.mem_of_getElem? (i := 609) (by decide +kernel), List.mem_of_getElem? (i := 610) (by decide +kernel)⟩
theorem lw_p39 : lw_okq (⟨"ShadowCourt$Day", "stepsLeft", "(I)I"⟩, 12) := ⟨⟨by decide +kernel, by decide +kernel⟩, List.mem_of_getElem? (i := 210) (by decide +kernel), List.mem_of_getElem? (i := 613) (by decide +kernel), List.mem_of_getElem? (i := 614) (by decide +kernel)⟩
theorem lw_p40 : lw_okq (⟨"ShadowCourt$Law", "tellMinute", "(I)V"⟩, 9) := ⟨⟨by decide +kernel, by decide +kernel⟩, List.mem_of_getElem? (i := 77) (by decide +kernel), List.mem_of_getElem? (i := 625) (by decide +kernel), List.mem_of_getElem? (i := 626) (by decide +kernel)⟩
theorem lw_p41 : lw_okq (⟨"ShadowCourt$Day", "draw", "()I"⟩, 12) := ⟨⟨by decide +kernel, by decide +kernel⟩, List.mem_of_getElem? (i := 210) (by decide +kernel), List.mem_of_getElem? (i := 629) (by decide +kernel), List.mem_of_getElem? (i := 630) (by decide +kernel)⟩
theorem lw_p42 : lw_okq (⟨"ShadowCourt$Law", "worthOf", "(II)I"⟩, 9) := ⟨⟨by decide +kernel, by decide +kernel⟩, List.mem_of_getElem? (i := 77) (by decide +kernel), List.mem_of_getElem? (i := 634) (by decide +kernel), List.mem_of_getElem? (i := 635) (by decide +kernel)⟩
theorem lw_p43 : lw_okq (⟨"ShadowCourt$Law", "reckon", "(I)I"⟩, 9) := ⟨⟨by decide +kernel, by decide +kernel⟩, List.mem_of_getElem? (i := 77) (by decide +kernel), List.mem_of_getElem? (i := 638) (by decide +kernel), List.mem_of_getElem? (i := 639) (by decide +kernel)⟩
theorem lw_p44 : lw_okq (⟨"ShadowCourt$Law", "toldAt", "(I)I"⟩, 9) := ⟨⟨by decide +kernel, by decide +kernel⟩, List.mem_of_getElem? (i := 77) (by decide +kernel), List.mem_of_getElem? (i := 642) (by decide +kernel), List.mem_of_getElem? (i := 643) (by decide +kernel)⟩
theorem lw_p45 : lw_okq (⟨"ShadowCourt$Law", "isNight", "(I)Z"⟩, 9) := ⟨⟨by decide +kernel, by decide +kernel⟩, List.mem_of_getElem? (i := 77) (by decide +kernel), List.mem_of_getElem? (i := 651) (by decide +kernel), List.mem_of_getElem? (i := 652) (by decide +kernel)⟩
theorem lw_p46 : lw_okq (⟨"ShadowCourt$Clock", "cast", "(LShadowCourt$Day;ZZ)V"⟩, 6) := ⟨⟨by decide +kernel, by decide +kernel⟩, List.mem_of_getElem? (i := 152) (by decide +kernel), List.mem_of_getElem? (i := 656) (by decide +kernel), List.mem_of_getElem? (i := 657) (by decide +kernel)⟩
theorem lw_p47 : lw_okq (⟨"ShadowCourt$Shadows", "clear", "()V"⟩, 4) := ⟨⟨by decide +kernel, by decide +kernel⟩, List.mem_of_getElem? (i := 158) (by decide +kernel), List.mem_of_getElem? (i := 660) (by decide +kernel), List.mem_of_getElem? (i := 661) (by decide +kernel)⟩
def lw_privs_3 : List (MethodName × Nat) := [(⟨"ShadowCourt$WalkReader", "copyOfSteps", "()[I"⟩, 3), (⟨"ShadowCourt$Day", "setWalk", "(I[I)V"⟩, 12), (⟨"ShadowCourt$Clock", "goOn", "(LShadowCourt$Day;II)I"⟩, 6), (⟨"ShadowCourt$Day", "owedByAll", "()I"⟩, 12), (⟨"ShadowCourt$Clock", "judgesStep", "(LShadowCourt$Day;)V"⟩, 6), (⟨"ShadowCourt$Day", "hasJudge", "(I)Z"⟩, 12), (⟨"ShadowCourt$Day", "takeStep", "(I)I"⟩, 12), (⟨"ShadowCourt$Day", "stepsLeft", "(I)I"⟩, 12), (⟨"ShadowCourt$Law", "tellMinute", "(I)V"⟩, 9), (⟨"ShadowCourt$Day", "draw", "()I"⟩, 12), (⟨"ShadowCourt$Law", "worthOf", "(II)I"⟩, 9), (⟨"ShadowCourt$Law", "reckon", "(I)I"⟩, 9), (⟨"ShadowCourt$Law", "toldAt", "(I)I"⟩, 9), (⟨"ShadowCourt$Law", "isNight", "(I)Z"⟩, 9), (⟨"ShadowCourt$Clock", "cast", "(LShadowCourt$Day;ZZ)V"⟩, 6), (⟨"ShadowCourt$Shadows", "clear", "()V"⟩, 4)]
theorem lw_r3 : ∀ q ∈ lw_privs_3, lw_okq q := List.forall_mem_cons.mpr ⟨lw_p32, List.forall_mem_cons.mpr ⟨lw_p33, List.forall_mem_cons.mpr ⟨lw_p34, List.forall_mem_cons.mpr ⟨lw_p35, List.forall_mem_cons.mpr ⟨lw_p36, List.forall_mem_cons.mpr ⟨lw_p37, List.forall_mem_cons.mpr ⟨lw_p38, List.forall_mem_cons.mpr ⟨lw_p39, List.forall_mem_cons.mpr ⟨lw_p40, List.forall_mem_cons.mpr ⟨lw_p41, List.forall_mem_cons.mpr ⟨lw_p42, List.forall_mem_cons.mpr ⟨lw_p43, List.forall_mem_cons.mpr ⟨lw_p44, List.forall_mem_cons.mpr ⟨lw_p45, List.forall_mem_cons.mpr ⟨lw_p46, List.forall_mem_cons.mpr ⟨lw_p47, fun _ h => absurd h List.not_mem_nil⟩⟩⟩⟩⟩⟩⟩⟩⟩⟩⟩⟩⟩⟩⟩⟩
theorem lw_p48 : lw_okq (⟨"ShadowCourt$Law", "tellJudge", "(II)V"⟩, 9) := ⟨⟨by decide +kernel, by decide +kernel⟩, List.mem_of_getElem? (i := 77) (by decide +kernel), List.mem_of_getElem? (i := 667) (by decide +kernel), List.mem_of_getElem? (i := 668) (by decide +kernel)⟩
theorem lw_p49 : lw_okq (⟨"ShadowCourt$Shadows", "fall", "(LShadowCourt$Market;III)V"⟩, 4) := ⟨⟨by decide +kernel, by decide +kernel⟩, List.mem_of_getElem? (i := 158) (by decide +kernel), List.mem_of_getElem? (i := 671) (by decide +kernel), List.mem_of_getElem? (i := 672) (by decide +kernel)⟩
theorem lw_p50 : lw_okq (⟨"ShadowCourt$Clock", "castOfLamp", "(LShadowCourt$Day;I)V"⟩, 6) := ⟨⟨by decide +kernel, by decide +kernel⟩, List.mem_of_getElem? (i := 152) (by decide +kernel), List.mem_of_getElem? (i := 677) (by decide +kernel), List.mem_of_getElem? (i := 678) (by decide +kernel)⟩
theorem lw_p51 : lw_okq (⟨"ShadowCourt$Clock", "lineUp", "(LShadowCourt$Day;I)I"⟩, 6) := ⟨⟨by decide +kernel, by decide +kernel⟩, List.mem_of_getElem? (i := 152) (by decide +kernel), List.mem_of_getElem? (i := 686) (by decide +kernel), List.mem_of_getElem? (i := 687) (by decide +kernel)⟩
theorem lw_p52 : lw_okq (⟨"ShadowCourt$Day", "mustServe", "(I)Z"⟩, 12) := ⟨⟨by decide +kernel, by decide +kernel⟩, List.mem_of_getElem? (i := 210) (by decide +kernel), List.mem_of_getElem? (i := 690) (by decide +kernel), List.mem_of_getElem? (i := 691) (by decide +kernel)⟩
theorem lw_p53 : lw_okq (⟨"ShadowCourt$Day", "hasFelon", "(I)Z"⟩, 12) := ⟨⟨by decide +kernel, by decide +kernel⟩, List.mem_of_getElem? (i := 210) (by decide +kernel), List.mem_of_getElem? (i := 694) (by decide +kernel), List.mem_of_getElem? (i := 695) (by decide +kernel)⟩
theorem lw_p54 : lw_okq (⟨"ShadowCourt$Clock", "tellFelon", "(LShadowCourt$Day;I)V"⟩, 6) := ⟨⟨by decide +kernel, by decide +kernel⟩, List.mem_of_getElem? (i := 152) (by decide +kernel), List.mem_of_getElem? (i := 698) (by decide +kernel), List.mem_of_getElem? (i := 699) (by decide +kernel)⟩
theorem lw_p55 : lw_okq (⟨"ShadowCourt$Law", "tellFelon", "(IIIII)V"⟩, 9) := ⟨⟨by decide +kernel, by decide +kernel⟩, List.mem_of_getElem? (i := 77) (by decide +kernel), List.mem_of_getElem? (i := 703) (by decide +kernel), List.mem_of_getElem? (i := 704) (by decide +kernel)⟩
theorem lw_p56 : lw_okq (⟨"ShadowCourt$Clock", "felonsGo", "(LShadowCourt$Day;IZ)V"⟩, 6) := ⟨⟨by decide +kernel, by decide +kernel⟩, List.mem_of_getElem? (i := 152) (by decide +kernel), List.mem_of_getElem? (i := 707) (by decide +kernel), List.mem_of_getElem? (i := 708) (by decide +kernel)⟩
theorem lw_p57 : lw_okq (⟨"ShadowCourt$Clock", "reachOf", "(LShadowCourt$Day;I)I"⟩, 6) := ⟨⟨by decide +kernel, by decide +kernel⟩, List.mem_of_getElem? (i := 152) (by decide +kernel), List.mem_of_getElem? (i := 711) (by decide +kernel), List.mem_of_getElem? (i := 712) (by decide +kernel)⟩
theorem lw_p58 : lw_okq (⟨"ShadowCourt$Clock", "findShadow", "(LShadowCourt$Day;II)I"⟩, 6) := ⟨⟨by decide +kernel, by decide +kernel⟩, List.mem_of_getElem? (i := 152) (by decide +kernel), List.mem_of_getElem? (i := 715) (by decide +kernel), List.mem_of_getElem? (i := 716) (by decide +kernel)⟩
theorem lw_p59 : lw_okq (⟨"ShadowCourt$Market", "stepsBetween", "(II)I"⟩, 5) := ⟨⟨by decide +kernel, by decide +kernel⟩, List.mem_of_getElem? (i := 52) (by decide +kernel), List.mem_of_getElem? (i := 720) (by decide +kernel), List.mem_of_getElem? (i := 721) (by decide +kernel)⟩
theorem lw_p60 : lw_okq (⟨"ShadowCourt$Market", "reckonRow", "([IIZ)V"⟩, 5) := ⟨⟨by decide +kernel, by decide +kernel⟩, List.mem_of_getElem? (i := 52) (by decide +kernel), List.mem_of_getElem? (i := 725) (by decide +kernel), List.mem_of_getElem? (i := 726) (by decide +kernel)⟩
theorem lw_p61 : lw_okq (⟨"ShadowCourt$Shadows", "layersAt", "(I)I"⟩, 4) := ⟨⟨by decide +kernel, by decide +kernel⟩, List.mem_of_getElem? (i := 158) (by decide +kernel), List.mem_of_getElem? (i := 731) (by decide +kernel), List.mem_of_getElem? (i := 732) (by decide +kernel)⟩
theorem lw_p62 : lw_okq (⟨"ShadowCourt", "canBeTried", "(I)Z"⟩, 12) := ⟨⟨by decide +kernel, by decide +kernel⟩, List.mem_of_getElem? (i := 16) (by decide +kernel), List.mem_of_getElem? (i := 740) (by decide +kernel), List.mem_of_getElem? (i := 741) (by decide +kernel)⟩
theorem lw_p63 : lw_okq (⟨"ShadowCourt$Foresight", "copyOfNow", "()LShadowCourt$Day;"⟩, 11) := ⟨⟨by decide +kernel, by decide +kernel⟩, List.mem_of_getElem? (i := 274) (by decide +kernel), List.mem_of_getElem? (i := 746) (by decide +kernel), List.mem_of_getElem? (i := 747) (by decide +kernel)⟩
def lw_privs_4 : List (MethodName × Nat) := [(⟨"ShadowCourt$Law", "tellJudge", "(II)V"⟩, 9), (⟨"ShadowCourt$Shadows", "fall", "(LShadowCourt$Market;III)V"⟩, 4), (⟨"ShadowCourt$Clock", "castOfLamp", "(LShadowCourt$Day;I)V"⟩, 6), (⟨"ShadowCourt$Clock", "lineUp", "(LShadowCourt$Day;I)I"⟩, 6), (⟨"ShadowCourt$Day", "mustServe", "(I)Z"⟩, 12), (⟨"ShadowCourt$Day", "hasFelon", "(I)Z"⟩, 12), (⟨"ShadowCourt$Clock", "tellFelon", "(LShadowCourt$Day;I)V"⟩, 6), (⟨"ShadowCourt$Law", "tellFelon", "(IIIII)V"⟩, 9), (⟨"ShadowCourt$Clock", "felonsGo", "(LShadowCourt$Day;IZ)V"⟩, 6), (⟨"ShadowCourt$Clock", "reachOf", "(LShadowCourt$Day;I)I"⟩, 6), (⟨"ShadowCourt$Clock", "findShadow", "(LShadowCourt$Day;II)I"⟩, 6), (⟨"ShadowCourt$Market", "stepsBetween", "(II)I"⟩, 5), (⟨"ShadowCourt$Market", "reckonRow", "([IIZ)V"⟩, 5), (⟨"ShadowCourt$Shadows", "layersAt", "(I)I"⟩, 4), (⟨"ShadowCourt", "canBeTried", "(I)Z"⟩, 12), (⟨"ShadowCourt$Foresight", "copyOfNow", "()LShadowCourt$Day;"⟩, 11)]
theorem lw_r4 : ∀ q ∈ lw_privs_4, lw_okq q := List.forall_mem_cons.mpr ⟨lw_p48, List.forall_mem_cons.mpr ⟨lw_p49, List.forall_mem_cons.mpr ⟨lw_p50, List.forall_mem_cons.mpr ⟨lw_p51, List.forall_mem_cons.mpr ⟨lw_p52, List.forall_mem_cons.mpr ⟨lw_p53, List.forall_mem_cons.mpr ⟨lw_p54, List.forall_mem_cons.mpr ⟨lw_p55, List.forall_mem_cons.mpr ⟨lw_p56, List.forall_mem_cons.mpr ⟨lw_p57, List.forall_mem_cons.mpr ⟨lw_p58, List.forall_mem_cons.mpr ⟨lw_p59, List.forall_mem_cons.mpr ⟨lw_p60, List.forall_mem_cons.mpr ⟨lw_p61, List.forall_mem_cons.mpr ⟨lw_p62, List.forall_mem_cons.mpr ⟨lw_p63, fun _ h => absurd h List.not_mem_nil⟩⟩⟩⟩⟩⟩⟩⟩⟩⟩⟩⟩⟩⟩⟩⟩
theorem lw_p64 : lw_okq (⟨"ShadowCourt$Day", "copyFrom", "(LShadowCourt$Day;)V"⟩, 12) := ⟨⟨by decide +kernel, by decide +kernel⟩, List.mem_of_getElem? (i := 210) (by decide +kernel), List.mem_of_getElem? (i := 750) (by decide +kernel), List.mem_of_getElem? (i := 751) (by decide +kernel)⟩
theorem lw_p65 : lw_okq (⟨"ShadowCourt$Day", "clearCounts", "()V"⟩, 12) := ⟨⟨by decide +kernel, by decide +kernel⟩, List.mem_of_getElem? (i := 210) (by decide +kernel), List.mem_of_getElem? (i := 754) (by decide +kernel), List.mem_of_getElem? (i := 755) (by decide +kernel)⟩
theorem lw_p66 : lw_okq (⟨"ShadowCourt$Day", "howManyDrowned", "()I"⟩, 12) := ⟨⟨by decide +kernel, by decide +kernel⟩, List.mem_of_getElem? (i := 210) (by decide +kernel), List.mem_of_getElem? (i := 758) (by decide +kernel), List.mem_of_getElem? (i := 759) (by decide +kernel)⟩
theorem lw_p67 : lw_okq (⟨"ShadowCourt$Day", "howManyOweNothing", "()I"⟩, 12) := ⟨⟨by decide +kernel, by decide +kernel⟩, List.mem_of_getElem? (i := 210) (by decide +kernel), List.mem_of_getElem? (i := 762) (by decide +kernel), List.mem_of_getElem? (i := 763) (by decide +kernel)⟩
theorem lw_p68 : lw_okq (⟨"ShadowCourt$Clock", "shadowsAt", "(LShadowCourt$Day;I)I"⟩, 6) := ⟨⟨by decide +kernel, by decide +kernel⟩, List.mem_of_getElem? (i := 152) (by decide +kernel), List.mem_of_getElem? (i := 771) (by decide +kernel), List.mem_of_getElem? (i := 772) (by decide +kernel)⟩
theorem lw_p69 : lw_okq (⟨"ShadowCourt$Clock", "castCloudless", "(LShadowCourt$Day;)V"⟩, 6) := ⟨⟨by decide +kernel, by decide +kernel⟩, List.mem_of_getElem? (i := 152) (by decide +kernel), List.mem_of_getElem? (i := 775) (by decide +kernel), List.mem_of_getElem? (i := 776) (by decide +kernel)⟩
theorem lw_p70 : lw_okq (⟨"ShadowCourt$Crowd", "most", "(LShadowCourt$Day;)I"⟩, 6) := ⟨⟨by decide +kernel, by decide +kernel⟩, List.mem_of_getElem? (i := 321) (by decide +kernel), List.mem_of_getElem? (i := 789) (by decide +kernel), List.mem_of_getElem? (i := 790) (by decide +kernel)⟩
theorem lw_p71 : lw_okq (⟨"ShadowCourt$Crowd", "findsPlace", "(LShadowCourt$Day;I)Z"⟩, 6) := ⟨⟨by decide +kernel, by decide +kernel⟩, List.mem_of_getElem? (i := 321) (by decide +kernel), List.mem_of_getElem? (i := 795) (by decide +kernel), List.mem_of_getElem? (i := 796) (by decide +kernel)⟩
theorem lw_p72 : lw_okq (⟨"ShadowCourt$Crowd", "canGo", "(LShadowCourt$Day;II)Z"⟩, 6) := ⟨⟨by decide +kernel, by decide +kernel⟩, List.mem_of_getElem? (i := 321) (by decide +kernel), List.mem_of_getElem? (i := 799) (by decide +kernel), List.mem_of_getElem? (i := 800) (by decide +kernel)⟩
theorem lw_p73 : lw_okq (⟨"ShadowCourt$Crowd", "handOn", "(I)V"⟩, 6) := ⟨⟨by decide +kernel, by decide +kernel⟩, List.mem_of_getElem? (i := 321) (by decide +kernel), List.mem_of_getElem? (i := 806) (by decide +kernel), List.mem_of_getElem? (i := 807) (by decide +kernel)⟩
theorem lw_p74 : lw_okq (⟨"ShadowCourt$Shadows", "howManyInMore", "()I"⟩, 4) := ⟨⟨by decide +kernel, by decide +kernel⟩, List.mem_of_getElem? (i := 158) (by decide +kernel), List.mem_of_getElem? (i := 810) (by decide +kernel), List.mem_of_getElem? (i := 811) (by decide +kernel)⟩
theorem lw_p75 : lw_okq (⟨"ShadowCourt$Foresight", "fewestSteps", "(III)I"⟩, 11) := ⟨⟨by decide +kernel, by decide +kernel⟩, List.mem_of_getElem? (i := 274) (by decide +kernel), List.mem_of_getElem? (i := 819) (by decide +kernel), List.mem_of_getElem? (i := 820) (by decide +kernel)⟩
theorem lw_p76 : lw_okq (⟨"ShadowCourt$Clock", "walkOn", "(LShadowCourt$Day;)Z"⟩, 6) := ⟨⟨by decide +kernel, by decide +kernel⟩, List.mem_of_getElem? (i := 152) (by decide +kernel), List.mem_of_getElem? (i := 827) (by decide +kernel), List.mem_of_getElem? (i := 828) (by decide +kernel)⟩
theorem lw_p77 : lw_okq (⟨"ShadowCourt$Foresight", "spreadSteps", "([I)V"⟩, 11) := ⟨⟨by decide +kernel, by decide +kernel⟩, List.mem_of_getElem? (i := 274) (by decide +kernel), List.mem_of_getElem? (i := 832) (by decide +kernel), List.mem_of_getElem? (i := 833) (by decide +kernel)⟩
theorem lw_p78 : lw_okq (⟨"ShadowCourt$Foresight", "oneStepMore", "(I)I"⟩, 11) := ⟨⟨by decide +kernel, by decide +kernel⟩, List.mem_of_getElem? (i := 274) (by decide +kernel), List.mem_of_getElem? (i := 837) (by decide +kernel), List.mem_of_getElem? (i := 838) (by decide +kernel)⟩
theorem lw_p79 : lw_okq (⟨"ShadowCourt$Foresight", "settle", "(II)V"⟩, 11) := ⟨⟨by decide +kernel, by decide +kernel⟩, List.mem_of_getElem? (i := 274) (by decide +kernel), List.mem_of_getElem? (i := 843) (by decide +kernel), List.mem_of_getElem? (i := 844) (by decide +kernel)⟩
def lw_privs_5 : List (MethodName × Nat) := [(⟨"ShadowCourt$Day", "copyFrom", "(LShadowCourt$Day;)V"⟩, 12), (⟨"ShadowCourt$Day", "clearCounts", "()V"⟩, 12), (⟨"ShadowCourt$Day", "howManyDrowned", "()I"⟩, 12), (⟨"ShadowCourt$Day", "howManyOweNothing", "()I"⟩, 12), (⟨"ShadowCourt$Clock", "shadowsAt", "(LShadowCourt$Day;I)I"⟩, 6), (⟨"ShadowCourt$Clock", "castCloudless", "(LShadowCourt$Day;)V"⟩, 6), (⟨"ShadowCourt$Crowd", "most", "(LShadowCourt$Day;)I"⟩, 6), (⟨"ShadowCourt$Crowd", "findsPlace", "(LShadowCourt$Day;I)Z"⟩, 6), (⟨"ShadowCourt$Crowd", "canGo", "(LShadowCourt$Day;II)Z"⟩, 6), (⟨"ShadowCourt$Crowd", "handOn", "(I)V"⟩, 6), (⟨"ShadowCourt$Shadows", "howManyInMore", "()I"⟩, 4), (⟨"ShadowCourt$Foresight", "fewestSteps", "(III)I"⟩, 11), (⟨"ShadowCourt$Clock", "walkOn", "(LShadowCourt$Day;)Z"⟩, 6), (⟨"ShadowCourt$Foresight", "spreadSteps", "([I)V"⟩, 11), (⟨"ShadowCourt$Foresight", "oneStepMore", "(I)I"⟩, 11), (⟨"ShadowCourt$Foresight", "settle", "(II)V"⟩, 11)]
theorem lw_r5 : ∀ q ∈ lw_privs_5, lw_okq q := List.forall_mem_cons.mpr ⟨lw_p64, List.forall_mem_cons.mpr ⟨lw_p65, List.forall_mem_cons.mpr ⟨lw_p66, List.forall_mem_cons.mpr ⟨lw_p67, List.forall_mem_cons.mpr ⟨lw_p68, List.forall_mem_cons.mpr ⟨lw_p69, List.forall_mem_cons.mpr ⟨lw_p70, List.forall_mem_cons.mpr ⟨lw_p71, List.forall_mem_cons.mpr ⟨lw_p72, List.forall_mem_cons.mpr ⟨lw_p73, List.forall_mem_cons.mpr ⟨lw_p74, List.forall_mem_cons.mpr ⟨lw_p75, List.forall_mem_cons.mpr ⟨lw_p76, List.forall_mem_cons.mpr ⟨lw_p77, List.forall_mem_cons.mpr ⟨lw_p78, List.forall_mem_cons.mpr ⟨lw_p79, fun _ h => absurd h List.not_mem_nil⟩⟩⟩⟩⟩⟩⟩⟩⟩⟩⟩⟩⟩⟩⟩⟩
theorem lw_p80 : lw_okq (⟨"ShadowCourt$Foresight", "leastOwedWay", "(II)I"⟩, 11) := ⟨⟨by decide +kernel, by decide +kernel⟩, List.mem_of_getElem? (i := 274) (by decide +kernel), List.mem_of_getElem? (i := 852) (by decide +kernel), List.mem_of_getElem? (i := 853) (by decide +kernel)⟩
theorem lw_p81 : lw_okq (⟨"ShadowCourt$Foresight", "stepAlone", "(I)[I"⟩, 11) := ⟨⟨by decide +kernel, by decide +kernel⟩, List.mem_of_getElem? (i := 274) (by decide +kernel), List.mem_of_getElem? (i := 857) (by decide +kernel), List.mem_of_getElem? (i := 858) (by decide +kernel)⟩
theorem lw_p82 : lw_okq (⟨"ShadowCourt$Foresight", "turnToNextWay", "(I)I"⟩, 11) := ⟨⟨by decide +kernel, by decide +kernel⟩, List.mem_of_getElem? (i := 274) (by decide +kernel), List.mem_of_getElem? (i := 863) (by decide +kernel), List.mem_of_getElem? (i := 864) (by decide +kernel)⟩
theorem lw_p83 : lw_okq (⟨"ShadowCourt$Foresight", "bestAhead", "(I)I"⟩, 11) := ⟨⟨by decide +kernel, by decide +kernel⟩, List.mem_of_getElem? (i := 274) (by decide +kernel), List.mem_of_getElem? (i := 871) (by decide +kernel), List.mem_of_getElem? (i := 872) (by decide +kernel)⟩
theorem lw_p84 : lw_okq (⟨"ShadowCourt$Foresight", "countShadedMinutes", "(I)V"⟩, 11) := ⟨⟨by decide +kernel, by decide +kernel⟩, List.mem_of_getElem? (i := 274) (by decide +kernel), List.mem_of_getElem? (i := 880) (by decide +kernel), List.mem_of_getElem? (i := 881) (by decide +kernel)⟩
theorem lw_p85 : lw_okq (⟨"ShadowCourt$Foresight", "howManyNeverShaded", "()I"⟩, 11) := ⟨⟨by decide +kernel, by decide +kernel⟩, List.mem_of_getElem? (i := 274) (by decide +kernel), List.mem_of_getElem? (i := 884) (by decide +kernel), List.mem_of_getElem? (i := 885) (by decide +kernel)⟩
theorem lw_p86 : lw_okq (⟨"ShadowCourt$Foresight", "mostShaded", "()I"⟩, 11) := ⟨⟨by decide +kernel, by decide +kernel⟩, List.mem_of_getElem? (i := 274) (by decide +kernel), List.mem_of_getElem? (i := 889) (by decide +kernel), List.mem_of_getElem? (i := 890) (by decide +kernel)⟩
theorem lw_p87 : lw_okq (⟨"ShadowCourt", "isFreeForLamp", "(I)Z"⟩, 12) := ⟨⟨by decide +kernel, by decide +kernel⟩, List.mem_of_getElem? (i := 16) (by decide +kernel), List.mem_of_getElem? (i := 897) (by decide +kernel), List.mem_of_getElem? (i := 898) (by decide +kernel)⟩
theorem lw_p88 : lw_okq (⟨"ShadowCourt$Clock", "spotsInLampShadows", "(LShadowCourt$Day;I)I"⟩, 6) := ⟨⟨by decide +kernel, by decide +kernel⟩, List.mem_of_getElem? (i := 152) (by decide +kernel), List.mem_of_getElem? (i := 903) (by decide +kernel), List.mem_of_getElem? (i := 904) (by decide +kernel)⟩
theorem lw_p89 : lw_okq (⟨"ShadowCourt", "hasBytesBeyond", "(III)Z"⟩, 12) := ⟨⟨by decide +kernel, by decide +kernel⟩, List.mem_of_getElem? (i := 16) (by decide +kernel), List.mem_of_getElem? (i := 912) (by decide +kernel), List.mem_of_getElem? (i := 913) (by decide +kernel)⟩
theorem lw_p90 : lw_okq (⟨"ShadowCourt$Tape", "byteAt", "(I)I"⟩, 5) := ⟨⟨by decide +kernel, by decide +kernel⟩, List.mem_of_getElem? (i := 24) (by decide +kernel), List.mem_of_getElem? (i := 916) (by decide +kernel), List.mem_of_getElem? (i := 917) (by decide +kernel)⟩
theorem lw_p91 : lw_okq (⟨"ShadowCourt", "printMakers", "(I)I"⟩, 12) := ⟨⟨by decide +kernel, by decide +kernel⟩, List.mem_of_getElem? (i := 16) (by decide +kernel), List.mem_of_getElem? (i := 920) (by decide +kernel), List.mem_of_getElem? (i := 921) (by decide +kernel)⟩
theorem lw_p92 : lw_okq (⟨"ShadowCourt", "brokenPrint", "(I)I"⟩, 12) := ⟨⟨by decide +kernel, by decide +kernel⟩, List.mem_of_getElem? (i := 16) (by decide +kernel), List.mem_of_getElem? (i := 924) (by decide +kernel), List.mem_of_getElem? (i := 925) (by decide +kernel)⟩
theorem lw_p93 : lw_okq (⟨"ShadowCourt$Market", "isDryWalk", "(II)Z"⟩, 5) := ⟨⟨by decide +kernel, by decide +kernel⟩, List.mem_of_getElem? (i := 52) (by decide +kernel), List.mem_of_getElem? (i := 928) (by decide +kernel), List.mem_of_getElem? (i := 929) (by decide +kernel)⟩
theorem lw_p94 : lw_okq (⟨"ShadowCourt", "printStarters", "()I"⟩, 12) := ⟨⟨by decide +kernel, by decide +kernel⟩, List.mem_of_getElem? (i := 16) (by decide +kernel), List.mem_of_getElem? (i := 932) (by decide +kernel), List.mem_of_getElem? (i := 933) (by decide +kernel)⟩
theorem lw_p95 : lw_okq (⟨"ShadowCourt", "printsFailAt", "(I)I"⟩, 12) := ⟨⟨by decide +kernel, by decide +kernel⟩, List.mem_of_getElem? (i := 16) (by decide +kernel), List.mem_of_getElem? (i := 936) (by decide +kernel), List.mem_of_getElem? (i := 937) (by decide +kernel)⟩
def lw_privs_6 : List (MethodName × Nat) := [(⟨"ShadowCourt$Foresight", "leastOwedWay", "(II)I"⟩, 11), (⟨"ShadowCourt$Foresight", "stepAlone", "(I)[I"⟩, 11), (⟨"ShadowCourt$Foresight", "turnToNextWay", "(I)I"⟩, 11), (⟨"ShadowCourt$Foresight", "bestAhead", "(I)I"⟩, 11), (⟨"ShadowCourt$Foresight", "countShadedMinutes", "(I)V"⟩, 11), (⟨"ShadowCourt$Foresight", "howManyNeverShaded", "()I"⟩, 11), (⟨"ShadowCourt$Foresight", "mostShaded", "()I"⟩, 11), (⟨"ShadowCourt", "isFreeForLamp", "(I)Z"⟩, 12), (⟨"ShadowCourt$Clock", "spotsInLampShadows", "(LShadowCourt$Day;I)I"⟩, 6), (⟨"ShadowCourt", "hasBytesBeyond", "(III)Z"⟩, 12), (⟨"ShadowCourt$Tape", "byteAt", "(I)I"⟩, 5), (⟨"ShadowCourt", "printMakers", "(I)I"⟩, 12), (⟨"ShadowCourt", "brokenPrint", "(I)I"⟩, 12), (⟨"ShadowCourt$Market", "isDryWalk", "(II)Z"⟩, 5), (⟨"ShadowCourt", "printStarters", "()I"⟩, 12), (⟨"ShadowCourt", "printsFailAt", "(I)I"⟩, 12)]
theorem lw_r6 : ∀ q ∈ lw_privs_6, lw_okq q := List.forall_mem_cons.mpr ⟨lw_p80, List.forall_mem_cons.mpr ⟨lw_p81, List.forall_mem_cons.mpr ⟨lw_p82, List.forall_mem_cons.mpr ⟨lw_p83, List.forall_mem_cons.mpr ⟨lw_p84, List.forall_mem_cons.mpr ⟨lw_p85, List.forall_mem_cons.mpr ⟨lw_p86, List.forall_mem_cons.mpr ⟨lw_p87, List.forall_mem_cons.mpr ⟨lw_p88, List.forall_mem_cons.mpr ⟨lw_p89, List.forall_mem_cons.mpr ⟨lw_p90, List.forall_mem_cons.mpr ⟨lw_p91, List.forall_mem_cons.mpr ⟨lw_p92, List.forall_mem_cons.mpr ⟨lw_p93, List.forall_mem_cons.mpr ⟨lw_p94, List.forall_mem_cons.mpr ⟨lw_p95, fun _ h => absurd h List.not_mem_nil⟩⟩⟩⟩⟩⟩⟩⟩⟩⟩⟩⟩⟩⟩⟩⟩
theorem lw_p96 : lw_okq (⟨"ShadowCourt", "cloudySets", "(III)I"⟩, 12) := ⟨⟨by decide +kernel, by decide +kernel⟩, List.mem_of_getElem? (i := 16) (by decide +kernel), List.mem_of_getElem? (i := 947) (by decide +kernel), List.mem_of_getElem? (i := 948) (by decide +kernel)⟩
theorem lw_p97 : lw_okq (⟨"ShadowCourt", "servedOutside", "(II)I"⟩, 12) := ⟨⟨by decide +kernel, by decide +kernel⟩, List.mem_of_getElem? (i := 16) (by decide +kernel), List.mem_of_getElem? (i := 951) (by decide +kernel), List.mem_of_getElem? (i := 952) (by decide +kernel)⟩
theorem lw_p98 : lw_okq (⟨"ShadowCourt", "areAllPlaces", "(II)Z"⟩, 12) := ⟨⟨by decide +kernel, by decide +kernel⟩, List.mem_of_getElem? (i := 16) (by decide +kernel), List.mem_of_getElem? (i := 959) (by decide +kernel), List.mem_of_getElem? (i := 960) (by decide +kernel)⟩
theorem lw_p99 : lw_okq (⟨"ShadowCourt", "sentencesTogether", "(III)I"⟩, 12) := ⟨⟨by decide +kernel, by decide +kernel⟩, List.mem_of_getElem? (i := 16) (by decide +kernel), List.mem_of_getElem? (i := 963) (by decide +kernel), List.mem_of_getElem? (i := 964) (by decide +kernel)⟩
theorem lw_p100 : lw_okq (⟨"ShadowCourt", "groupSentences", "(II)V"⟩, 12) := ⟨⟨by decide +kernel, by decide +kernel⟩, List.mem_of_getElem? (i := 16) (by decide +kernel), List.mem_of_getElem? (i := 967) (by decide +kernel), List.mem_of_getElem? (i := 968) (by decide +kernel)⟩
theorem lw_p101 : lw_okq (⟨"ShadowCourt", "joinGroups", "(III)V"⟩, 12) := ⟨⟨by decide +kernel, by decide +kernel⟩, List.mem_of_getElem? (i := 16) (by decide +kernel), List.mem_of_getElem? (i := 971) (by decide +kernel), List.mem_of_getElem? (i := 972) (by decide +kernel)⟩
theorem lw_p102 : lw_okq (⟨"ShadowCourt", "longestOfGroup", "(II)I"⟩, 12) := ⟨⟨by decide +kernel, by decide +kernel⟩, List.mem_of_getElem? (i := 16) (by decide +kernel), List.mem_of_getElem? (i := 975) (by decide +kernel), List.mem_of_getElem? (i := 976) (by decide +kernel)⟩
theorem lw_p103 : lw_okq (⟨"ShadowCourt$Tape", "numberAt", "(I)I"⟩, 5) := ⟨⟨by decide +kernel, by decide +kernel⟩, List.mem_of_getElem? (i := 24) (by decide +kernel), List.mem_of_getElem? (i := 1001) (by decide +kernel), List.mem_of_getElem? (i := 1002) (by decide +kernel)⟩
theorem lw_p104 : lw_okq (⟨"ShadowCourtModel", "types", "(I)V"⟩, 61) := ⟨⟨by decide +kernel, by decide +kernel⟩, List.mem_of_getElem? (i := 1013) (by decide +kernel), List.mem_of_getElem? (i := 1208) (by decide +kernel), List.mem_of_getElem? (i := 1209) (by decide +kernel)⟩
theorem lw_p105 : lw_okq (⟨"ShadowCourtModel", "readsRow", "(I)Z"⟩, 61) := ⟨⟨by decide +kernel, by decide +kernel⟩, List.mem_of_getElem? (i := 1013) (by decide +kernel), List.mem_of_getElem? (i := 1219) (by decide +kernel), List.mem_of_getElem? (i := 1220) (by decide +kernel)⟩
theorem lw_p106 : lw_okq (⟨"ShadowCourtModel", "here", "()I"⟩, 61) := ⟨⟨by decide +kernel, by decide +kernel⟩, List.mem_of_getElem? (i := 1013) (by decide +kernel), List.mem_of_getElem? (i := 1223) (by decide +kernel), List.mem_of_getElem? (i := 1224) (by decide +kernel)⟩
theorem lw_p107 : lw_okq (⟨"ShadowCourtModel", "wrongAt", "(II)Z"⟩, 61) := ⟨⟨by decide +kernel, by decide +kernel⟩, List.mem_of_getElem? (i := 1013) (by decide +kernel), List.mem_of_getElem? (i := 1233) (by decide +kernel), List.mem_of_getElem? (i := 1234) (by decide +kernel)⟩
theorem lw_p108 : lw_okq (⟨"ShadowCourtModel", "takes", "(I)Z"⟩, 61) := ⟨⟨by decide +kernel, by decide +kernel⟩, List.mem_of_getElem? (i := 1013) (by decide +kernel), List.mem_of_getElem? (i := 1237) (by decide +kernel), List.mem_of_getElem? (i := 1238) (by decide +kernel)⟩
theorem lw_p109 : lw_okq (⟨"ShadowCourtModel", "isJudge", "(I)Z"⟩, 61) := ⟨⟨by decide +kernel, by decide +kernel⟩, List.mem_of_getElem? (i := 1013) (by decide +kernel), List.mem_of_getElem? (i := 1241) (by decide +kernel), List.mem_of_getElem? (i := 1242) (by decide +kernel)⟩
theorem lw_p110 : lw_okq (⟨"ShadowCourtModel", "isGround", "(I)Z"⟩, 61) := ⟨⟨by decide +kernel, by decide +kernel⟩, List.mem_of_getElem? (i := 1013) (by decide +kernel), List.mem_of_getElem? (i := 1251) (by decide +kernel), List.mem_of_getElem? (i := 1252) (by decide +kernel)⟩
theorem lw_p111 : lw_okq (⟨"ShadowCourtModel", "isFelon", "(I)Z"⟩, 61) := ⟨⟨by decide +kernel, by decide +kernel⟩, List.mem_of_getElem? (i := 1013) (by decide +kernel), List.mem_of_getElem? (i := 1255) (by decide +kernel), List.mem_of_getElem? (i := 1256) (by decide +kernel)⟩
def lw_privs_7 : List (MethodName × Nat) := [(⟨"ShadowCourt", "cloudySets", "(III)I"⟩, 12), (⟨"ShadowCourt", "servedOutside", "(II)I"⟩, 12), (⟨"ShadowCourt", "areAllPlaces", "(II)Z"⟩, 12), (⟨"ShadowCourt", "sentencesTogether", "(III)I"⟩, 12), (⟨"ShadowCourt", "groupSentences", "(II)V"⟩, 12), (⟨"ShadowCourt", "joinGroups", "(III)V"⟩, 12), (⟨"ShadowCourt", "longestOfGroup", "(II)I"⟩, 12), (⟨"ShadowCourt$Tape", "numberAt", "(I)I"⟩, 5), (⟨"ShadowCourtModel", "types", "(I)V"⟩, 61), (⟨"ShadowCourtModel", "readsRow", "(I)Z"⟩, 61), (⟨"ShadowCourtModel", "here", "()I"⟩, 61), (⟨"ShadowCourtModel", "wrongAt", "(II)Z"⟩, 61), (⟨"ShadowCourtModel", "takes", "(I)Z"⟩, 61), (⟨"ShadowCourtModel", "isJudge", "(I)Z"⟩, 61), (⟨"ShadowCourtModel", "isGround", "(I)Z"⟩, 61), (⟨"ShadowCourtModel", "isFelon", "(I)Z"⟩, 61)]
theorem lw_r7 : ∀ q ∈ lw_privs_7, lw_okq q := List.forall_mem_cons.mpr ⟨lw_p96, List.forall_mem_cons.mpr ⟨lw_p97, List.forall_mem_cons.mpr ⟨lw_p98, List.forall_mem_cons.mpr ⟨lw_p99, List.forall_mem_cons.mpr ⟨lw_p100, List.forall_mem_cons.mpr ⟨lw_p101, List.forall_mem_cons.mpr ⟨lw_p102, List.forall_mem_cons.mpr ⟨lw_p103, List.forall_mem_cons.mpr ⟨lw_p104, List.forall_mem_cons.mpr ⟨lw_p105, List.forall_mem_cons.mpr ⟨lw_p106, List.forall_mem_cons.mpr ⟨lw_p107, List.forall_mem_cons.mpr ⟨lw_p108, List.forall_mem_cons.mpr ⟨lw_p109, List.forall_mem_cons.mpr ⟨lw_p110, List.forall_mem_cons.mpr ⟨lw_p111, fun _ h => absurd h List.not_mem_nil⟩⟩⟩⟩⟩⟩⟩⟩⟩⟩⟩⟩⟩⟩⟩⟩
theorem lw_p112 : lw_okq (⟨"ShadowCourtModel", "readsStep", "()Z"⟩, 61) := ⟨⟨by decide +kernel, by decide +kernel⟩, List.mem_of_getElem? (i := 1013) (by decide +kernel), List.mem_of_getElem? (i := 1278) (by decide +kernel), List.mem_of_getElem? (i := 1279) (by decide +kernel)⟩
theorem lw_p113 : lw_okq (⟨"ShadowCourtModel", "readsTimes", "()V"⟩, 61) := ⟨⟨by decide +kernel, by decide +kernel⟩, List.mem_of_getElem? (i := 1013) (by decide +kernel), List.mem_of_getElem? (i := 1282) (by decide +kernel), List.mem_of_getElem? (i := 1283) (by decide +kernel)⟩
theorem lw_p114 : lw_okq (⟨"ShadowCourtModel", "repeats", "(III)Z"⟩, 61) := ⟨⟨by decide +kernel, by decide +kernel⟩, List.mem_of_getElem? (i := 1013) (by decide +kernel), List.mem_of_getElem? (i := 1289) (by decide +kernel), List.mem_of_getElem? (i := 1290) (by decide +kernel)⟩
theorem lw_p115 : lw_okq (⟨"ShadowCourtModel", "readsClause", "()Z"⟩, 61) := ⟨⟨by decide +kernel, by decide +kernel⟩, List.mem_of_getElem? (i := 1013) (by decide +kernel), List.mem_of_getElem? (i := 1297) (by decide +kernel), List.mem_of_getElem? (i := 1298) (by decide +kernel)⟩
theorem lw_p116 : lw_okq (⟨"ShadowCourtModel", "readsSum", "()Z"⟩, 61) := ⟨⟨by decide +kernel, by decide +kernel⟩, List.mem_of_getElem? (i := 1013) (by decide +kernel), List.mem_of_getElem? (i := 1304) (by decide +kernel), List.mem_of_getElem? (i := 1305) (by decide +kernel)⟩
theorem lw_p117 : lw_okq (⟨"ShadowCourtModel", "readsFactor", "()Z"⟩, 61) := ⟨⟨by decide +kernel, by decide +kernel⟩, List.mem_of_getElem? (i := 1013) (by decide +kernel), List.mem_of_getElem? (i := 1308) (by decide +kernel), List.mem_of_getElem? (i := 1309) (by decide +kernel)⟩
theorem lw_p118 : lw_okq (⟨"ShadowCourtModel", "opens", "(I)Z"⟩, 61) := ⟨⟨by decide +kernel, by decide +kernel⟩, List.mem_of_getElem? (i := 1013) (by decide +kernel), List.mem_of_getElem? (i := 1312) (by decide +kernel), List.mem_of_getElem? (i := 1313) (by decide +kernel)⟩
theorem lw_p119 : lw_okq (⟨"ShadowCourtModel", "isDigit", "()Z"⟩, 61) := ⟨⟨by decide +kernel, by decide +kernel⟩, List.mem_of_getElem? (i := 1013) (by decide +kernel), List.mem_of_getElem? (i := 1317) (by decide +kernel), List.mem_of_getElem? (i := 1318) (by decide +kernel)⟩
theorem lw_p120 : lw_okq (⟨"ShadowCourtModel", "readsNumber", "()Z"⟩, 61) := ⟨⟨by decide +kernel, by decide +kernel⟩, List.mem_of_getElem? (i := 1013) (by decide +kernel), List.mem_of_getElem? (i := 1321) (by decide +kernel), List.mem_of_getElem? (i := 1322) (by decide +kernel)⟩
theorem lw_p121 : lw_okq (⟨"ShadowCourtModel", "notes", "(II)V"⟩, 61) := ⟨⟨by decide +kernel, by decide +kernel⟩, List.mem_of_getElem? (i := 1013) (by decide +kernel), List.mem_of_getElem? (i := 1325) (by decide +kernel), List.mem_of_getElem? (i := 1326) (by decide +kernel)⟩
theorem lw_p122 : lw_okq (⟨"ShadowCourtModel", "closesSums", "(Z)V"⟩, 61) := ⟨⟨by decide +kernel, by decide +kernel⟩, List.mem_of_getElem? (i := 1013) (by decide +kernel), List.mem_of_getElem? (i := 1335) (by decide +kernel), List.mem_of_getElem? (i := 1336) (by decide +kernel)⟩
theorem lw_p123 : lw_okq (⟨"ShadowCourtModel", "waitTop", "()I"⟩, 61) := ⟨⟨by decide +kernel, by decide +kernel⟩, List.mem_of_getElem? (i := 1013) (by decide +kernel), List.mem_of_getElem? (i := 1339) (by decide +kernel), List.mem_of_getElem? (i := 1340) (by decide +kernel)⟩
theorem lw_p124 : lw_okq (⟨"ShadowCourtModel", "hasOpenSum", "(I)Z"⟩, 61) := ⟨⟨by decide +kernel, by decide +kernel⟩, List.mem_of_getElem? (i := 1013) (by decide +kernel), List.mem_of_getElem? (i := 1343) (by decide +kernel), List.mem_of_getElem? (i := 1344) (by decide +kernel)⟩
theorem lw_p125 : lw_okq (⟨"ShadowCourtModel", "readsCondition", "()Z"⟩, 61) := ⟨⟨by decide +kernel, by decide +kernel⟩, List.mem_of_getElem? (i := 1013) (by decide +kernel), List.mem_of_getElem? (i := 1347) (by decide +kernel), List.mem_of_getElem? (i := 1348) (by decide +kernel)⟩
theorem lw_p126 : lw_okq (⟨"ShadowCourtModel", "readsCompared", "()Z"⟩, 61) := ⟨⟨by decide +kernel, by decide +kernel⟩, List.mem_of_getElem? (i := 1013) (by decide +kernel), List.mem_of_getElem? (i := 1351) (by decide +kernel), List.mem_of_getElem? (i := 1352) (by decide +kernel)⟩
theorem lw_p127 : lw_okq (⟨"ShadowCourtModel", "endsPiece", "()V"⟩, 61) := ⟨⟨by decide +kernel, by decide +kernel⟩, List.mem_of_getElem? (i := 1013) (by decide +kernel), List.mem_of_getElem? (i := 1355) (by decide +kernel), List.mem_of_getElem? (i := 1356) (by decide +kernel)⟩
def lw_privs_8 : List (MethodName × Nat) := [(⟨"ShadowCourtModel", "readsStep", "()Z"⟩, 61), (⟨"ShadowCourtModel", "readsTimes", "()V"⟩, 61), (⟨"ShadowCourtModel", "repeats", "(III)Z"⟩, 61), (⟨"ShadowCourtModel", "readsClause", "()Z"⟩, 61), (⟨"ShadowCourtModel", "readsSum", "()Z"⟩, 61), (⟨"ShadowCourtModel", "readsFactor", "()Z"⟩, 61), (⟨"ShadowCourtModel", "opens", "(I)Z"⟩, 61), (⟨"ShadowCourtModel", "isDigit", "()Z"⟩, 61), (⟨"ShadowCourtModel", "readsNumber", "()Z"⟩, 61), (⟨"ShadowCourtModel", "notes", "(II)V"⟩, 61), (⟨"ShadowCourtModel", "closesSums", "(Z)V"⟩, 61), (⟨"ShadowCourtModel", "waitTop", "()I"⟩, 61), (⟨"ShadowCourtModel", "hasOpenSum", "(I)Z"⟩, 61), (⟨"ShadowCourtModel", "readsCondition", "()Z"⟩, 61), (⟨"ShadowCourtModel", "readsCompared", "()Z"⟩, 61), (⟨"ShadowCourtModel", "endsPiece", "()V"⟩, 61)]
theorem lw_r8 : ∀ q ∈ lw_privs_8, lw_okq q := List.forall_mem_cons.mpr ⟨lw_p112, List.forall_mem_cons.mpr ⟨lw_p113, List.forall_mem_cons.mpr ⟨lw_p114, List.forall_mem_cons.mpr ⟨lw_p115, List.forall_mem_cons.mpr ⟨lw_p116, List.forall_mem_cons.mpr ⟨lw_p117, List.forall_mem_cons.mpr ⟨lw_p118, List.forall_mem_cons.mpr ⟨lw_p119, List.forall_mem_cons.mpr ⟨lw_p120, List.forall_mem_cons.mpr ⟨lw_p121, List.forall_mem_cons.mpr ⟨lw_p122, List.forall_mem_cons.mpr ⟨lw_p123, List.forall_mem_cons.mpr ⟨lw_p124, List.forall_mem_cons.mpr ⟨lw_p125, List.forall_mem_cons.mpr ⟨lw_p126, List.forall_mem_cons.mpr ⟨lw_p127, fun _ h => absurd h List.not_mem_nil⟩⟩⟩⟩⟩⟩⟩⟩⟩⟩⟩⟩⟩⟩⟩⟩
theorem lw_p128 : lw_okq (⟨"ShadowCourtModel", "lands", "(Z)V"⟩, 61) := ⟨⟨by decide +kernel, by decide +kernel⟩, List.mem_of_getElem? (i := 1013) (by decide +kernel), List.mem_of_getElem? (i := 1359) (by decide +kernel), List.mem_of_getElem? (i := 1360) (by decide +kernel)⟩
theorem lw_p129 : lw_okq (⟨"ShadowCourtModel", "jumps", "(I)V"⟩, 61) := ⟨⟨by decide +kernel, by decide +kernel⟩, List.mem_of_getElem? (i := 1013) (by decide +kernel), List.mem_of_getElem? (i := 1363) (by decide +kernel), List.mem_of_getElem? (i := 1364) (by decide +kernel)⟩
theorem lw_p130 : lw_okq (⟨"ShadowCourtModel", "minutesGo", "(I)V"⟩, 61) := ⟨⟨by decide +kernel, by decide +kernel⟩, List.mem_of_getElem? (i := 1013) (by decide +kernel), List.mem_of_getElem? (i := 1371) (by decide +kernel), List.mem_of_getElem? (i := 1372) (by decide +kernel)⟩
theorem lw_p131 : lw_okq (⟨"ShadowCourtModel", "begins", "()V"⟩, 61) := ⟨⟨by decide +kernel, by decide +kernel⟩, List.mem_of_getElem? (i := 1013) (by decide +kernel), List.mem_of_getElem? (i := 1375) (by decide +kernel), List.mem_of_getElem? (i := 1376) (by decide +kernel)⟩
theorem lw_p132 : lw_okq (⟨"ShadowCourtModel", "walksOn", "(I)V"⟩, 61) := ⟨⟨by decide +kernel, by decide +kernel⟩, List.mem_of_getElem? (i := 1013) (by decide +kernel), List.mem_of_getElem? (i := 1379) (by decide +kernel), List.mem_of_getElem? (i := 1380) (by decide +kernel)⟩
theorem lw_p133 : lw_okq (⟨"ShadowCourtModel", "steps", "(II)V"⟩, 61) := ⟨⟨by decide +kernel, by decide +kernel⟩, List.mem_of_getElem? (i := 1013) (by decide +kernel), List.mem_of_getElem? (i := 1383) (by decide +kernel), List.mem_of_getElem? (i := 1384) (by decide +kernel)⟩
theorem lw_p134 : lw_okq (⟨"ShadowCourtModel", "shadesGo", "()V"⟩, 61) := ⟨⟨by decide +kernel, by decide +kernel⟩, List.mem_of_getElem? (i := 1013) (by decide +kernel), List.mem_of_getElem? (i := 1396) (by decide +kernel), List.mem_of_getElem? (i := 1397) (by decide +kernel)⟩
theorem lw_p135 : lw_okq (⟨"ShadowCourtModel", "draws", "()I"⟩, 61) := ⟨⟨by decide +kernel, by decide +kernel⟩, List.mem_of_getElem? (i := 1013) (by decide +kernel), List.mem_of_getElem? (i := 1400) (by decide +kernel), List.mem_of_getElem? (i := 1401) (by decide +kernel)⟩
theorem lw_p136 : lw_okq (⟨"ShadowCourtModel", "feels", "(I)V"⟩, 61) := ⟨⟨by decide +kernel, by decide +kernel⟩, List.mem_of_getElem? (i := 1013) (by decide +kernel), List.mem_of_getElem? (i := 1405) (by decide +kernel), List.mem_of_getElem? (i := 1406) (by decide +kernel)⟩
theorem lw_p137 : lw_okq (⟨"ShadowCourtModel", "byLaw", "(II)I"⟩, 61) := ⟨⟨by decide +kernel, by decide +kernel⟩, List.mem_of_getElem? (i := 1013) (by decide +kernel), List.mem_of_getElem? (i := 1409) (by decide +kernel), List.mem_of_getElem? (i := 1410) (by decide +kernel)⟩
theorem lw_p138 : lw_okq (⟨"ShadowCourtModel", "comesTo", "(II)I"⟩, 61) := ⟨⟨by decide +kernel, by decide +kernel⟩, List.mem_of_getElem? (i := 1013) (by decide +kernel), List.mem_of_getElem? (i := 1413) (by decide +kernel), List.mem_of_getElem? (i := 1414) (by decide +kernel)⟩
theorem lw_p139 : lw_okq (⟨"ShadowCourtModel", "laysShades", "(IZ)V"⟩, 61) := ⟨⟨by decide +kernel, by decide +kernel⟩, List.mem_of_getElem? (i := 1013) (by decide +kernel), List.mem_of_getElem? (i := 1420) (by decide +kernel), List.mem_of_getElem? (i := 1421) (by decide +kernel)⟩
theorem lw_p140 : lw_okq (⟨"ShadowCourtModel", "bares", "()V"⟩, 61) := ⟨⟨by decide +kernel, by decide +kernel⟩, List.mem_of_getElem? (i := 1013) (by decide +kernel), List.mem_of_getElem? (i := 1424) (by decide +kernel), List.mem_of_getElem? (i := 1425) (by decide +kernel)⟩
theorem lw_p141 : lw_okq (⟨"ShadowCourtModel", "fallsOf", "(II)V"⟩, 61) := ⟨⟨by decide +kernel, by decide +kernel⟩, List.mem_of_getElem? (i := 1013) (by decide +kernel), List.mem_of_getElem? (i := 1428) (by decide +kernel), List.mem_of_getElem? (i := 1429) (by decide +kernel)⟩
theorem lw_p142 : lw_okq (⟨"ShadowCourtModel", "falls", "(III)V"⟩, 61) := ⟨⟨by decide +kernel, by decide +kernel⟩, List.mem_of_getElem? (i := 1013) (by decide +kernel), List.mem_of_getElem? (i := 1432) (by decide +kernel), List.mem_of_getElem? (i := 1433) (by decide +kernel)⟩
theorem lw_p143 : lw_okq (⟨"ShadowCourtModel", "isNight", "(I)Z"⟩, 61) := ⟨⟨by decide +kernel, by decide +kernel⟩, List.mem_of_getElem? (i := 1013) (by decide +kernel), List.mem_of_getElem? (i := 1436) (by decide +kernel), List.mem_of_getElem? (i := 1437) (by decide +kernel)⟩
def lw_privs_9 : List (MethodName × Nat) := [(⟨"ShadowCourtModel", "lands", "(Z)V"⟩, 61), (⟨"ShadowCourtModel", "jumps", "(I)V"⟩, 61), (⟨"ShadowCourtModel", "minutesGo", "(I)V"⟩, 61), (⟨"ShadowCourtModel", "begins", "()V"⟩, 61), (⟨"ShadowCourtModel", "walksOn", "(I)V"⟩, 61), (⟨"ShadowCourtModel", "steps", "(II)V"⟩, 61), (⟨"ShadowCourtModel", "shadesGo", "()V"⟩, 61), (⟨"ShadowCourtModel", "draws", "()I"⟩, 61), (⟨"ShadowCourtModel", "feels", "(I)V"⟩, 61), (⟨"ShadowCourtModel", "byLaw", "(II)I"⟩, 61), (⟨"ShadowCourtModel", "comesTo", "(II)I"⟩, 61), (⟨"ShadowCourtModel", "laysShades", "(IZ)V"⟩, 61), (⟨"ShadowCourtModel", "bares", "()V"⟩, 61), (⟨"ShadowCourtModel", "fallsOf", "(II)V"⟩, 61), (⟨"ShadowCourtModel", "falls", "(III)V"⟩, 61), (⟨"ShadowCourtModel", "isNight", "(I)Z"⟩, 61)]
theorem lw_r9 : ∀ q ∈ lw_privs_9, lw_okq q := List.forall_mem_cons.mpr ⟨lw_p128, List.forall_mem_cons.mpr ⟨lw_p129, List.forall_mem_cons.mpr ⟨lw_p130, List.forall_mem_cons.mpr ⟨lw_p131, List.forall_mem_cons.mpr ⟨lw_p132, List.forall_mem_cons.mpr ⟨lw_p133, List.forall_mem_cons.mpr ⟨lw_p134, List.forall_mem_cons.mpr ⟨lw_p135, List.forall_mem_cons.mpr ⟨lw_p136, List.forall_mem_cons.mpr ⟨lw_p137, List.forall_mem_cons.mpr ⟨lw_p138, List.forall_mem_cons.mpr ⟨lw_p139, List.forall_mem_cons.mpr ⟨lw_p140, List.forall_mem_cons.mpr ⟨lw_p141, List.forall_mem_cons.mpr ⟨lw_p142, List.forall_mem_cons.mpr ⟨lw_p143, fun _ h => absurd h List.not_mem_nil⟩⟩⟩⟩⟩⟩⟩⟩⟩⟩⟩⟩⟩⟩⟩⟩
theorem lw_p144 : lw_okq (⟨"ShadowCourtModel", "fallsByLamps", "()V"⟩, 61) := ⟨⟨by decide +kernel, by decide +kernel⟩, List.mem_of_getElem? (i := 1013) (by decide +kernel), List.mem_of_getElem? (i := 1440) (by decide +kernel), List.mem_of_getElem? (i := 1441) (by decide +kernel)⟩
theorem lw_p145 : lw_okq (⟨"ShadowCourtModel", "fallsBehind", "(II)V"⟩, 61) := ⟨⟨by decide +kernel, by decide +kernel⟩, List.mem_of_getElem? (i := 1013) (by decide +kernel), List.mem_of_getElem? (i := 1444) (by decide +kernel), List.mem_of_getElem? (i := 1445) (by decide +kernel)⟩
theorem lw_p146 : lw_okq (⟨"ShadowCourtModel", "laysOrder", "()I"⟩, 61) := ⟨⟨by decide +kernel, by decide +kernel⟩, List.mem_of_getElem? (i := 1013) (by decide +kernel), List.mem_of_getElem? (i := 1448) (by decide +kernel), List.mem_of_getElem? (i := 1449) (by decide +kernel)⟩
theorem lw_p147 : lw_okq (⟨"ShadowCourtModel", "owes", "(I)Z"⟩, 61) := ⟨⟨by decide +kernel, by decide +kernel⟩, List.mem_of_getElem? (i := 1013) (by decide +kernel), List.mem_of_getElem? (i := 1452) (by decide +kernel), List.mem_of_getElem? (i := 1453) (by decide +kernel)⟩
theorem lw_p148 : lw_okq (⟨"ShadowCourtModel", "byFelon", "(III)I"⟩, 61) := ⟨⟨by decide +kernel, by decide +kernel⟩, List.mem_of_getElem? (i := 1013) (by decide +kernel), List.mem_of_getElem? (i := 1457) (by decide +kernel), List.mem_of_getElem? (i := 1458) (by decide +kernel)⟩
theorem lw_p149 : lw_okq (⟨"ShadowCourtModel", "servesOf", "(IZ)V"⟩, 61) := ⟨⟨by decide +kernel, by decide +kernel⟩, List.mem_of_getElem? (i := 1013) (by decide +kernel), List.mem_of_getElem? (i := 1461) (by decide +kernel), List.mem_of_getElem? (i := 1462) (by decide +kernel)⟩
theorem lw_p150 : lw_okq (⟨"ShadowCourtModel", "findsFor", "(I)I"⟩, 61) := ⟨⟨by decide +kernel, by decide +kernel⟩, List.mem_of_getElem? (i := 1013) (by decide +kernel), List.mem_of_getElem? (i := 1465) (by decide +kernel), List.mem_of_getElem? (i := 1466) (by decide +kernel)⟩
theorem lw_p151 : lw_okq (⟨"ShadowCourtModel", "laysCosts", "(IIZ)V"⟩, 61) := ⟨⟨by decide +kernel, by decide +kernel⟩, List.mem_of_getElem? (i := 1013) (by decide +kernel), List.mem_of_getElem? (i := 1469) (by decide +kernel), List.mem_of_getElem? (i := 1470) (by decide +kernel)⟩
theorem lw_p152 : lw_okq (⟨"ShadowCourtModel", "freeMany", "()I"⟩, 61) := ⟨⟨by decide +kernel, by decide +kernel⟩, List.mem_of_getElem? (i := 1013) (by decide +kernel), List.mem_of_getElem? (i := 1486) (by decide +kernel), List.mem_of_getElem? (i := 1487) (by decide +kernel)⟩
theorem lw_p153 : lw_okq (⟨"ShadowCourtModel", "mostAtOnce", "()I"⟩, 61) := ⟨⟨by decide +kernel, by decide +kernel⟩, List.mem_of_getElem? (i := 1013) (by decide +kernel), List.mem_of_getElem? (i := 1502) (by decide +kernel), List.mem_of_getElem? (i := 1503) (by decide +kernel)⟩
theorem lw_p154 : lw_okq (⟨"ShadowCourtModel", "laysReach", "()V"⟩, 61) := ⟨⟨by decide +kernel, by decide +kernel⟩, List.mem_of_getElem? (i := 1013) (by decide +kernel), List.mem_of_getElem? (i := 1506) (by decide +kernel), List.mem_of_getElem? (i := 1507) (by decide +kernel)⟩
theorem lw_p155 : lw_okq (⟨"ShadowCourtModel", "laysSteps", "()V"⟩, 61) := ⟨⟨by decide +kernel, by decide +kernel⟩, List.mem_of_getElem? (i := 1013) (by decide +kernel), List.mem_of_getElem? (i := 1517) (by decide +kernel), List.mem_of_getElem? (i := 1518) (by decide +kernel)⟩
theorem lw_p156 : lw_okq (⟨"ShadowCourtModel", "goesFew", "(I)V"⟩, 61) := ⟨⟨by decide +kernel, by decide +kernel⟩, List.mem_of_getElem? (i := 1013) (by decide +kernel), List.mem_of_getElem? (i := 1521) (by decide +kernel), List.mem_of_getElem? (i := 1522) (by decide +kernel)⟩
theorem lw_p157 : lw_okq (⟨"ShadowCourtModel", "servedIn", "(III)I"⟩, 61) := ⟨⟨by decide +kernel, by decide +kernel⟩, List.mem_of_getElem? (i := 1013) (by decide +kernel), List.mem_of_getElem? (i := 1529) (by decide +kernel), List.mem_of_getElem? (i := 1530) (by decide +kernel)⟩
theorem lw_p158 : lw_okq (⟨"ShadowCourtModel", "isFree", "(I)Z"⟩, 61) := ⟨⟨by decide +kernel, by decide +kernel⟩, List.mem_of_getElem? (i := 1013) (by decide +kernel), List.mem_of_getElem? (i := 1540) (by decide +kernel), List.mem_of_getElem? (i := 1541) (by decide +kernel)⟩
theorem lw_p159 : lw_okq (⟨"ShadowCourtModel", "servedFirst", "(II)I"⟩, 61) := ⟨⟨by decide +kernel, by decide +kernel⟩, List.mem_of_getElem? (i := 1013) (by decide +kernel), List.mem_of_getElem? (i := 1548) (by decide +kernel), List.mem_of_getElem? (i := 1549) (by decide +kernel)⟩
def lw_privs_10 : List (MethodName × Nat) := [(⟨"ShadowCourtModel", "fallsByLamps", "()V"⟩, 61), (⟨"ShadowCourtModel", "fallsBehind", "(II)V"⟩, 61), (⟨"ShadowCourtModel", "laysOrder", "()I"⟩, 61), (⟨"ShadowCourtModel", "owes", "(I)Z"⟩, 61), (⟨"ShadowCourtModel", "byFelon", "(III)I"⟩, 61), (⟨"ShadowCourtModel", "servesOf", "(IZ)V"⟩, 61), (⟨"ShadowCourtModel", "findsFor", "(I)I"⟩, 61), (⟨"ShadowCourtModel", "laysCosts", "(IIZ)V"⟩, 61), (⟨"ShadowCourtModel", "freeMany", "()I"⟩, 61), (⟨"ShadowCourtModel", "mostAtOnce", "()I"⟩, 61), (⟨"ShadowCourtModel", "laysReach", "()V"⟩, 61), (⟨"ShadowCourtModel", "laysSteps", "()V"⟩, 61), (⟨"ShadowCourtModel", "goesFew", "(I)V"⟩, 61), (⟨"ShadowCourtModel", "servedIn", "(III)I"⟩, 61), (⟨"ShadowCourtModel", "isFree", "(I)Z"⟩, 61), (⟨"ShadowCourtModel", "servedFirst", "(II)I"⟩, 61)]
theorem lw_r10 : ∀ q ∈ lw_privs_10, lw_okq q := List.forall_mem_cons.mpr ⟨lw_p144, List.forall_mem_cons.mpr ⟨lw_p145, List.forall_mem_cons.mpr ⟨lw_p146, List.forall_mem_cons.mpr ⟨lw_p147, List.forall_mem_cons.mpr ⟨lw_p148, List.forall_mem_cons.mpr ⟨lw_p149, List.forall_mem_cons.mpr ⟨lw_p150, List.forall_mem_cons.mpr ⟨lw_p151, List.forall_mem_cons.mpr ⟨lw_p152, List.forall_mem_cons.mpr ⟨lw_p153, List.forall_mem_cons.mpr ⟨lw_p154, List.forall_mem_cons.mpr ⟨lw_p155, List.forall_mem_cons.mpr ⟨lw_p156, List.forall_mem_cons.mpr ⟨lw_p157, List.forall_mem_cons.mpr ⟨lw_p158, List.forall_mem_cons.mpr ⟨lw_p159, fun _ h => absurd h List.not_mem_nil⟩⟩⟩⟩⟩⟩⟩⟩⟩⟩⟩⟩⟩⟩⟩⟩
theorem lw_p160 : lw_okq (⟨"ShadowCourtModel", "laysDark", "(I)V"⟩, 61) := ⟨⟨by decide +kernel, by decide +kernel⟩, List.mem_of_getElem? (i := 1013) (by decide +kernel), List.mem_of_getElem? (i := 1556) (by decide +kernel), List.mem_of_getElem? (i := 1557) (by decide +kernel)⟩
theorem lw_p161 : lw_okq (⟨"ShadowCourtModel", "areSpots", "(I)Z"⟩, 61) := ⟨⟨by decide +kernel, by decide +kernel⟩, List.mem_of_getElem? (i := 1013) (by decide +kernel), List.mem_of_getElem? (i := 1564) (by decide +kernel), List.mem_of_getElem? (i := 1565) (by decide +kernel)⟩
theorem lw_p162 : lw_okq (⟨"ShadowCourtModel", "failsAt", "(I)I"⟩, 61) := ⟨⟨by decide +kernel, by decide +kernel⟩, List.mem_of_getElem? (i := 1013) (by decide +kernel), List.mem_of_getElem? (i := 1568) (by decide +kernel), List.mem_of_getElem? (i := 1569) (by decide +kernel)⟩
theorem lw_p163 : lw_okq (⟨"ShadowCourtModel", "binds", "(III)V"⟩, 61) := ⟨⟨by decide +kernel, by decide +kernel⟩, List.mem_of_getElem? (i := 1013) (by decide +kernel), List.mem_of_getElem? (i := 1580) (by decide +kernel), List.mem_of_getElem? (i := 1581) (by decide +kernel)⟩
theorem lw_p164 : lw_okq (⟨"ShadowCourtModel", "tapeNumber", "(I)I"⟩, 61) := ⟨⟨by decide +kernel, by decide +kernel⟩, List.mem_of_getElem? (i := 1013) (by decide +kernel), List.mem_of_getElem? (i := 1608) (by decide +kernel), List.mem_of_getElem? (i := 1609) (by decide +kernel)⟩
theorem lw_p165 : lw_okq (⟨"ShadowCourtModel", "lampSet", "()I"⟩, 61) := ⟨⟨by decide +kernel, by decide +kernel⟩, List.mem_of_getElem? (i := 1013) (by decide +kernel), List.mem_of_getElem? (i := 1616) (by decide +kernel), List.mem_of_getElem? (i := 1617) (by decide +kernel)⟩
theorem lw_p166 : lw_okq (⟨"ShadowCourtModel", "owedAll", "()I"⟩, 61) := ⟨⟨by decide +kernel, by decide +kernel⟩, List.mem_of_getElem? (i := 1013) (by decide +kernel), List.mem_of_getElem? (i := 1620) (by decide +kernel), List.mem_of_getElem? (i := 1621) (by decide +kernel)⟩
def lw_privs_11 : List (MethodName × Nat) := [(⟨"ShadowCourtModel", "laysDark", "(I)V"⟩, 61), (⟨"ShadowCourtModel", "areSpots", "(I)Z"⟩, 61), (⟨"ShadowCourtModel", "failsAt", "(I)I"⟩, 61), (⟨"ShadowCourtModel", "binds", "(III)V"⟩, 61), (⟨"ShadowCourtModel", "tapeNumber", "(I)I"⟩, 61), (⟨"ShadowCourtModel", "lampSet", "()I"⟩, 61), (⟨"ShadowCourtModel", "owedAll", "()I"⟩, 61)]
theorem lw_r11 : ∀ q ∈ lw_privs_11, lw_okq q := List.forall_mem_cons.mpr ⟨lw_p160, List.forall_mem_cons.mpr ⟨lw_p161, List.forall_mem_cons.mpr ⟨lw_p162, List.forall_mem_cons.mpr ⟨lw_p163, List.forall_mem_cons.mpr ⟨lw_p164, List.forall_mem_cons.mpr ⟨lw_p165, List.forall_mem_cons.mpr ⟨lw_p166, fun _ h => absurd h List.not_mem_nil⟩⟩⟩⟩⟩⟩⟩
def lw_privs : List (MethodName × Nat) := lw_privs_1 ++ (lw_privs_2 ++ (lw_privs_3 ++ (lw_privs_4 ++ (lw_privs_5 ++ (lw_privs_6 ++ (lw_privs_7 ++ (lw_privs_8 ++ (lw_privs_9 ++ (lw_privs_10 ++ (lw_privs_11))))))))))
def lw_tbl : List Cond := k2_sels lw_privs ++ tables_1
theorem lw_privs_ok : ∀ q ∈ lw_privs, lw_okq q := by
  show ∀ q ∈ lw_privs_1 ++ (lw_privs_2 ++ (lw_privs_3 ++ (lw_privs_4 ++ (lw_privs_5 ++ (lw_privs_6 ++ (lw_privs_7 ++ (lw_privs_8 ++ (lw_privs_9 ++ (lw_privs_10 ++ (lw_privs_11)))))))))), lw_okq q
  exact List.forall_mem_append.mpr ⟨lw_r1, List.forall_mem_append.mpr ⟨lw_r2, List.forall_mem_append.mpr ⟨lw_r3, List.forall_mem_append.mpr ⟨lw_r4, List.forall_mem_append.mpr ⟨lw_r5, List.forall_mem_append.mpr ⟨lw_r6, List.forall_mem_append.mpr ⟨lw_r7, List.forall_mem_append.mpr ⟨lw_r8, List.forall_mem_append.mpr ⟨lw_r9, List.forall_mem_append.mpr ⟨lw_r10, lw_r11⟩⟩⟩⟩⟩⟩⟩⟩⟩⟩
-- ===== end of PART A
/-! ===== BEGIN printed: names, fields, word lists, decode rows ===== -/
def RX0 : String := "ShadowCourt$Clock"
def TX0 : u_T := fun k => match k with
  | 0 => ("ShadowCourt$Clock", "market", "LShadowCourt$Market;", true)
  | 1 => ("ShadowCourt$Clock", "law", "LShadowCourt$Law;", true)
  | 2 => ("ShadowCourt$Clock", "lampSpot", "[I", true)
  | 3 => ("ShadowCourt$Clock", "shadows", "LShadowCourt$Shadows;", true)
  | 4 => ("ShadowCourt$Clock", "line", "[I", true)
  | _ => ("ShadowCourt$Clock", "ranks", "[I", true)
def tyX0 : Nat → FieldType := fun k => match k with
  | 0 => .object "ShadowCourt$Market"
  | 1 => .object "ShadowCourt$Law"
  | 2 => .array .int
  | 3 => .object "ShadowCourt$Shadows"
  | 4 => .array .int
  | _ => .array .int
abbrev wsX00 : List Cond := u_ws RX0 TX0 6
theorem nmX0 : ∀ a, a < 6 → ∀ b, b < 6 → a ≠ b → (TX0 a).2.1 ≠ (TX0 b).2.1 := by decide +kernel
theorem tyX0_ok : ∀ k, k < 6 → parseFieldDescriptor (TX0 k).2.2.1 = some (tyX0 k) := by decide +kernel
abbrev cX0_init : ByteArray := prog_2_method_1_code
def yX0_init : MethodName := ⟨RX0, "<init>", "(LShadowCourt$Market;LShadowCourt$Law;)V"⟩
abbrev cX0_goOn : ByteArray := prog_2_method_2_code
def yX0_goOn : MethodName := ⟨RX0, "goOn", "(LShadowCourt$Day;II)I"⟩
abbrev cX0_walkOn : ByteArray := prog_2_method_3_code
def yX0_walkOn : MethodName := ⟨RX0, "walkOn", "(LShadowCourt$Day;)Z"⟩
abbrev cX0_judgesStep : ByteArray := prog_2_method_4_code
def yX0_judgesStep : MethodName := ⟨RX0, "judgesStep", "(LShadowCourt$Day;)V"⟩
abbrev cX0_castCloudless : ByteArray := prog_2_method_5_code
def yX0_castCloudless : MethodName := ⟨RX0, "castCloudless", "(LShadowCourt$Day;)V"⟩
abbrev cX0_cast : ByteArray := prog_2_method_6_code
def yX0_cast : MethodName := ⟨RX0, "cast", "(LShadowCourt$Day;ZZ)V"⟩
abbrev cX0_castOfLamp : ByteArray := prog_2_method_7_code
def yX0_castOfLamp : MethodName := ⟨RX0, "castOfLamp", "(LShadowCourt$Day;I)V"⟩
abbrev cX0_spotsInLampShadows : ByteArray := prog_2_method_8_code
def yX0_spotsInLampShadows : MethodName := ⟨RX0, "spotsInLampShadows", "(LShadowCourt$Day;I)I"⟩
abbrev cX0_shadowsAt : ByteArray := prog_2_method_9_code
def yX0_shadowsAt : MethodName := ⟨RX0, "shadowsAt", "(LShadowCourt$Day;I)I"⟩
abbrev cX0_tellFelon : ByteArray := prog_2_method_10_code
def yX0_tellFelon : MethodName := ⟨RX0, "tellFelon", "(LShadowCourt$Day;I)V"⟩
abbrev cX0_reachOf : ByteArray := prog_2_method_11_code
def yX0_reachOf : MethodName := ⟨RX0, "reachOf", "(LShadowCourt$Day;I)I"⟩
abbrev cX0_lineUp : ByteArray := prog_2_method_12_code
def yX0_lineUp : MethodName := ⟨RX0, "lineUp", "(LShadowCourt$Day;I)I"⟩
abbrev cX0_felonsGo : ByteArray := prog_2_method_13_code
def yX0_felonsGo : MethodName := ⟨RX0, "felonsGo", "(LShadowCourt$Day;IZ)V"⟩
abbrev cX0_findShadow : ByteArray := prog_2_method_14_code
def yX0_findShadow : MethodName := ⟨RX0, "findShadow", "(LShadowCourt$Day;II)I"⟩
def RX1 : String := "ShadowCourt$Crowd"
def TX1 : u_T := fun k => match k with
  | 0 => ("ShadowCourt$Crowd", "clock", "LShadowCourt$Clock;", true)
  | 1 => ("ShadowCourt$Crowd", "reach", "[I", true)
  | 2 => ("ShadowCourt$Crowd", "placeOf", "[I", true)
  | 3 => ("ShadowCourt$Crowd", "holderOf", "[I", true)
  | 4 => ("ShadowCourt$Crowd", "reachedBy", "[I", true)
  | _ => ("ShadowCourt$Crowd", "queue", "[I", true)
def tyX1 : Nat → FieldType := fun k => match k with
  | 0 => .object "ShadowCourt$Clock"
  | 1 => .array .int
  | 2 => .array .int
  | 3 => .array .int
  | 4 => .array .int
  | _ => .array .int
abbrev wsX10 : List Cond := u_ws RX1 TX1 6
theorem nmX1 : ∀ a, a < 6 → ∀ b, b < 6 → a ≠ b → (TX1 a).2.1 ≠ (TX1 b).2.1 := by decide +kernel
theorem tyX1_ok : ∀ k, k < 6 → parseFieldDescriptor (TX1 k).2.2.1 = some (tyX1 k) := by decide +kernel
abbrev cX1_init : ByteArray := prog_3_method_1_code
def yX1_init : MethodName := ⟨RX1, "<init>", "(LShadowCourt$Clock;)V"⟩
abbrev cX1_most : ByteArray := prog_3_method_2_code
def yX1_most : MethodName := ⟨RX1, "most", "(LShadowCourt$Day;)I"⟩
abbrev cX1_findsPlace : ByteArray := prog_3_method_3_code
def yX1_findsPlace : MethodName := ⟨RX1, "findsPlace", "(LShadowCourt$Day;I)Z"⟩
abbrev cX1_canGo : ByteArray := prog_3_method_4_code
def yX1_canGo : MethodName := ⟨RX1, "canGo", "(LShadowCourt$Day;II)Z"⟩
abbrev cX1_handOn : ByteArray := prog_3_method_5_code
def yX1_handOn : MethodName := ⟨RX1, "handOn", "(I)V"⟩
def RX2 : String := "ShadowCourt$Day"
def TX2 : u_T := fun k => match k with
  | 0 => ("ShadowCourt$Day", "judgeSpot", "[I", true)
  | 1 => ("ShadowCourt$Day", "walks", "[[I", true)
  | 2 => ("ShadowCourt$Day", "stepsDone", "[I", true)
  | 3 => ("ShadowCourt$Day", "felonSpot", "[I", true)
  | 4 => ("ShadowCourt$Day", "owed", "[I", true)
  | 5 => ("ShadowCourt$Day", "away", "[I", true)
  | 6 => ("ShadowCourt$Day", "drowned", "[Z", true)
  | 7 => ("ShadowCourt$Day", "minute", "I", false)
  | 8 => ("ShadowCourt$Day", "drawState", "I", false)
  | 9 => ("ShadowCourt$Day", "timesAway", "I", false)
  | 10 => ("ShadowCourt$Day", "cloudyMinutes", "I", false)
  | _ => ("ShadowCourt$Day", "felonSteps", "I", false)
def tyX2 : Nat → FieldType := fun k => match k with
  | 0 => .array .int
  | 1 => .array (.array .int)
  | 2 => .array .int
  | 3 => .array .int
  | 4 => .array .int
  | 5 => .array .int
  | 6 => .array .boolean
  | 7 => .int
  | 8 => .int
  | 9 => .int
  | 10 => .int
  | _ => .int
abbrev wsX20 : List Cond := u_ws RX2 TX2 12
theorem nmX2 : ∀ a, a < 12 → ∀ b, b < 12 → a ≠ b → (TX2 a).2.1 ≠ (TX2 b).2.1 := by decide +kernel
theorem tyX2_ok : ∀ k, k < 12 → parseFieldDescriptor (TX2 k).2.2.1 = some (tyX2 k) := by decide +kernel
abbrev cX2_init : ByteArray := prog_4_method_1_code
def yX2_init : MethodName := ⟨RX2, "<init>", "()V"⟩
abbrev cX2_copyFrom : ByteArray := prog_4_method_2_code
def yX2_copyFrom : MethodName := ⟨RX2, "copyFrom", "(LShadowCourt$Day;)V"⟩
abbrev cX2_clearCounts : ByteArray := prog_4_method_3_code
def yX2_clearCounts : MethodName := ⟨RX2, "clearCounts", "()V"⟩
abbrev cX2_setWalk : ByteArray := prog_4_method_4_code
def yX2_setWalk : MethodName := ⟨RX2, "setWalk", "(I[I)V"⟩
abbrev cX2_setFelon : ByteArray := prog_4_method_5_code
def yX2_setFelon : MethodName := ⟨RX2, "setFelon", "(III)V"⟩
abbrev cX2_hasJudge : ByteArray := prog_4_method_6_code
def yX2_hasJudge : MethodName := ⟨RX2, "hasJudge", "(I)Z"⟩
abbrev cX2_hasFelon : ByteArray := prog_4_method_7_code
def yX2_hasFelon : MethodName := ⟨RX2, "hasFelon", "(I)Z"⟩
abbrev cX2_mustServe : ByteArray := prog_4_method_8_code
def yX2_mustServe : MethodName := ⟨RX2, "mustServe", "(I)Z"⟩
abbrev cX2_stepsLeft : ByteArray := prog_4_method_9_code
def yX2_stepsLeft : MethodName := ⟨RX2, "stepsLeft", "(I)I"⟩
abbrev cX2_takeStep : ByteArray := prog_4_method_10_code
def yX2_takeStep : MethodName := ⟨RX2, "takeStep", "(I)I"⟩
abbrev cX2_draw : ByteArray := prog_4_method_11_code
def yX2_draw : MethodName := ⟨RX2, "draw", "()I"⟩
abbrev cX2_owedByAll : ByteArray := prog_4_method_12_code
def yX2_owedByAll : MethodName := ⟨RX2, "owedByAll", "()I"⟩
abbrev cX2_howManyDrowned : ByteArray := prog_4_method_13_code
def yX2_howManyDrowned : MethodName := ⟨RX2, "howManyDrowned", "()I"⟩
abbrev cX2_howManyOweNothing : ByteArray := prog_4_method_14_code
def yX2_howManyOweNothing : MethodName := ⟨RX2, "howManyOweNothing", "()I"⟩
def RX3 : String := "ShadowCourt$Foresight"
def TX3 : u_T := fun k => match k with
  | 0 => ("ShadowCourt$Foresight", "clock", "LShadowCourt$Clock;", true)
  | 1 => ("ShadowCourt$Foresight", "now", "LShadowCourt$Day;", true)
  | 2 => ("ShadowCourt$Foresight", "days", "[LShadowCourt$Day;", true)
  | 3 => ("ShadowCourt$Foresight", "singleSteps", "[[I", true)
  | 4 => ("ShadowCourt$Foresight", "way", "[I", true)
  | 5 => ("ShadowCourt$Foresight", "bestWay", "[I", true)
  | 6 => ("ShadowCourt$Foresight", "bestFelon", "I", false)
  | 7 => ("ShadowCourt$Foresight", "shadedMinutes", "[I", true)
  | 8 => ("ShadowCourt$Foresight", "least", "[[I", true)
  | 9 => ("ShadowCourt$Foresight", "spread", "[I", true)
  | _ => ("ShadowCourt$Foresight", "wider", "[I", true)
def tyX3 : Nat → FieldType := fun k => match k with
  | 0 => .object "ShadowCourt$Clock"
  | 1 => .object "ShadowCourt$Day"
  | 2 => .array (.object "ShadowCourt$Day")
  | 3 => .array (.array .int)
  | 4 => .array .int
  | 5 => .array .int
  | 6 => .int
  | 7 => .array .int
  | 8 => .array (.array .int)
  | 9 => .array .int
  | _ => .array .int
abbrev wsX30 : List Cond := u_ws RX3 TX3 11
theorem nmX3 : ∀ a, a < 11 → ∀ b, b < 11 → a ≠ b → (TX3 a).2.1 ≠ (TX3 b).2.1 := by decide +kernel
theorem tyX3_ok : ∀ k, k < 11 → parseFieldDescriptor (TX3 k).2.2.1 = some (tyX3 k) := by decide +kernel
abbrev cX3_init : ByteArray := prog_5_method_1_code
def yX3_init : MethodName := ⟨RX3, "<init>", "(LShadowCourt$Clock;LShadowCourt$Day;)V"⟩
abbrev cX3_copyOfNow : ByteArray := prog_5_method_2_code
def yX3_copyOfNow : MethodName := ⟨RX3, "copyOfNow", "()LShadowCourt$Day;"⟩
abbrev cX3_leastOwedWay : ByteArray := prog_5_method_3_code
def yX3_leastOwedWay : MethodName := ⟨RX3, "leastOwedWay", "(II)I"⟩
abbrev cX3_stepAlone : ByteArray := prog_5_method_4_code
def yX3_stepAlone : MethodName := ⟨RX3, "stepAlone", "(I)[I"⟩
abbrev cX3_turnToNextWay : ByteArray := prog_5_method_5_code
def yX3_turnToNextWay : MethodName := ⟨RX3, "turnToNextWay", "(I)I"⟩
abbrev cX3_bestAhead : ByteArray := prog_5_method_6_code
def yX3_bestAhead : MethodName := ⟨RX3, "bestAhead", "(I)I"⟩
abbrev cX3_countShadedMinutes : ByteArray := prog_5_method_7_code
def yX3_countShadedMinutes : MethodName := ⟨RX3, "countShadedMinutes", "(I)V"⟩
abbrev cX3_howManyNeverShaded : ByteArray := prog_5_method_8_code
def yX3_howManyNeverShaded : MethodName := ⟨RX3, "howManyNeverShaded", "()I"⟩
abbrev cX3_mostShaded : ByteArray := prog_5_method_9_code
def yX3_mostShaded : MethodName := ⟨RX3, "mostShaded", "()I"⟩
abbrev cX3_fewestSteps : ByteArray := prog_5_method_10_code
def yX3_fewestSteps : MethodName := ⟨RX3, "fewestSteps", "(III)I"⟩
abbrev cX3_spreadSteps : ByteArray := prog_5_method_11_code
def yX3_spreadSteps : MethodName := ⟨RX3, "spreadSteps", "([I)V"⟩
abbrev cX3_oneStepMore : ByteArray := prog_5_method_12_code
def yX3_oneStepMore : MethodName := ⟨RX3, "oneStepMore", "(I)I"⟩
abbrev cX3_settle : ByteArray := prog_5_method_13_code
def yX3_settle : MethodName := ⟨RX3, "settle", "(II)V"⟩
def RX4 : String := "ShadowCourt$Law"
def TX4 : u_T := fun k => match k with
  | 0 => ("ShadowCourt$Law", "orders", "[I", true)
  | 1 => ("ShadowCourt$Law", "words", "[I", true)
  | 2 => ("ShadowCourt$Law", "used", "I", false)
  | 3 => ("ShadowCourt$Law", "kindOfClause", "[I", true)
  | 4 => ("ShadowCourt$Law", "worthAt", "[I", true)
  | 5 => ("ShadowCourt$Law", "askedAt", "[I", true)
  | 6 => ("ShadowCourt$Law", "clauses", "I", false)
  | 7 => ("ShadowCourt$Law", "told", "[I", true)
  | _ => ("ShadowCourt$Law", "stack", "[I", true)
def tyX4 : Nat → FieldType := fun k => match k with
  | 0 => .array .int
  | 1 => .array .int
  | 2 => .int
  | 3 => .array .int
  | 4 => .array .int
  | 5 => .array .int
  | 6 => .int
  | 7 => .array .int
  | _ => .array .int
abbrev wsX40 : List Cond := u_ws RX4 TX4 9
theorem nmX4 : ∀ a, a < 9 → ∀ b, b < 9 → a ≠ b → (TX4 a).2.1 ≠ (TX4 b).2.1 := by decide +kernel
theorem tyX4_ok : ∀ k, k < 9 → parseFieldDescriptor (TX4 k).2.2.1 = some (tyX4 k) := by decide +kernel
abbrev cX4_init : ByteArray := prog_6_method_1_code
def yX4_init : MethodName := ⟨RX4, "<init>", "()V"⟩
abbrev cX4_empty : ByteArray := prog_6_method_2_code
def yX4_empty : MethodName := ⟨RX4, "empty", "()V"⟩
abbrev cX4_copyFrom : ByteArray := prog_6_method_3_code
def yX4_copyFrom : MethodName := ⟨RX4, "copyFrom", "(LShadowCourt$Law;)V"⟩
abbrev cX4_put : ByteArray := prog_6_method_4_code
def yX4_put : MethodName := ⟨RX4, "put", "(II)I"⟩
abbrev cX4_landSkip : ByteArray := prog_6_method_5_code
def yX4_landSkip : MethodName := ⟨RX4, "landSkip", "(I)V"⟩
abbrev cX4_placeOfLetter : ByteArray := prog_6_method_6_code
def yX4_placeOfLetter : MethodName := ⟨RX4, "placeOfLetter", "(I)I"⟩
abbrev cX4_tellMinute : ByteArray := prog_6_method_7_code
def yX4_tellMinute : MethodName := ⟨RX4, "tellMinute", "(I)V"⟩
abbrev cX4_tellJudge : ByteArray := prog_6_method_8_code
def yX4_tellJudge : MethodName := ⟨RX4, "tellJudge", "(II)V"⟩
abbrev cX4_tellFelon : ByteArray := prog_6_method_9_code
def yX4_tellFelon : MethodName := ⟨RX4, "tellFelon", "(IIIII)V"⟩
abbrev cX4_isNight : ByteArray := prog_6_method_10_code
def yX4_isNight : MethodName := ⟨RX4, "isNight", "(I)Z"⟩
abbrev cX4_worthOf : ByteArray := prog_6_method_11_code
def yX4_worthOf : MethodName := ⟨RX4, "worthOf", "(II)I"⟩
abbrev cX4_reckon : ByteArray := prog_6_method_12_code
def yX4_reckon : MethodName := ⟨RX4, "reckon", "(I)I"⟩
abbrev cX4_toldAt : ByteArray := prog_6_method_13_code
def yX4_toldAt : MethodName := ⟨RX4, "toldAt", "(I)I"⟩
abbrev cX4_joined : ByteArray := prog_6_method_14_code
def yX4_joined : MethodName := ⟨RX4, "joined", "(III)I"⟩
def RX5 : String := "ShadowCourt$LawReader"
def TX5 : u_T := fun k => match k with
  | 0 => ("ShadowCourt$LawReader", "tape", "LShadowCourt$Tape;", true)
  | _ => ("ShadowCourt$LawReader", "written", "LShadowCourt$Law;", true)
def tyX5 : Nat → FieldType := fun k => match k with
  | 0 => .object "ShadowCourt$Tape"
  | _ => .object "ShadowCourt$Law"
abbrev wsX50 : List Cond := u_ws RX5 TX5 2
theorem nmX5 : ∀ a, a < 2 → ∀ b, b < 2 → a ≠ b → (TX5 a).2.1 ≠ (TX5 b).2.1 := by decide +kernel
theorem tyX5_ok : ∀ k, k < 2 → parseFieldDescriptor (TX5 k).2.2.1 = some (tyX5 k) := by decide +kernel
abbrev cX5_init : ByteArray := prog_7_method_1_code
def yX5_init : MethodName := ⟨RX5, "<init>", "(LShadowCourt$Tape;)V"⟩
abbrev cX5_readWhole : ByteArray := prog_7_method_2_code
def yX5_readWhole : MethodName := ⟨RX5, "readWhole", "()Z"⟩
abbrev cX5_isKind : ByteArray := prog_7_method_3_code
def yX5_isKind : MethodName := ⟨RX5, "isKind", "(I)Z"⟩
abbrev cX5_readClause : ByteArray := prog_7_method_4_code
def yX5_readClause : MethodName := ⟨RX5, "readClause", "(II)Z"⟩
abbrev cX5_readParts : ByteArray := prog_7_method_5_code
def yX5_readParts : MethodName := ⟨RX5, "readParts", "(I)Z"⟩
abbrev cX5_readPieces : ByteArray := prog_7_method_6_code
def yX5_readPieces : MethodName := ⟨RX5, "readPieces", "(I)Z"⟩
abbrev cX5_readPiece : ByteArray := prog_7_method_7_code
def yX5_readPiece : MethodName := ⟨RX5, "readPiece", "(I)Z"⟩
abbrev cX5_readSum : ByteArray := prog_7_method_8_code
def yX5_readSum : MethodName := ⟨RX5, "readSum", "(I)Z"⟩
abbrev cX5_readTerm : ByteArray := prog_7_method_9_code
def yX5_readTerm : MethodName := ⟨RX5, "readTerm", "(I)Z"⟩
abbrev cX5_readFactor : ByteArray := prog_7_method_10_code
def yX5_readFactor : MethodName := ⟨RX5, "readFactor", "(I)Z"⟩
abbrev cX5_readNumber : ByteArray := prog_7_method_11_code
def yX5_readNumber : MethodName := ⟨RX5, "readNumber", "()Z"⟩
def RX6 : String := "ShadowCourt$Market"
def TX6 : u_T := fun k => match k with
  | 0 => ("ShadowCourt$Market", "kinds", "[I", true)
  | 1 => ("ShadowCourt$Market", "drawn", "[I", true)
  | 2 => ("ShadowCourt$Market", "steps", "[[I", true)
  | 3 => ("ShadowCourt$Market", "isReckoned", "[Z", true)
  | _ => ("ShadowCourt$Market", "drySteps", "[I", true)
def tyX6 : Nat → FieldType := fun k => match k with
  | 0 => .array .int
  | 1 => .array .int
  | 2 => .array (.array .int)
  | 3 => .array .boolean
  | _ => .array .int
abbrev wsX60 : List Cond := u_ws RX6 TX6 5
theorem nmX6 : ∀ a, a < 5 → ∀ b, b < 5 → a ≠ b → (TX6 a).2.1 ≠ (TX6 b).2.1 := by decide +kernel
theorem tyX6_ok : ∀ k, k < 5 → parseFieldDescriptor (TX6 k).2.2.1 = some (tyX6 k) := by decide +kernel
abbrev cX6_init : ByteArray := prog_8_method_1_code
def yX6_init : MethodName := ⟨RX6, "<init>", "()V"⟩
abbrev cX6_spotAt : ByteArray := prog_8_method_2_code
def yX6_spotAt : MethodName := ⟨RX6, "spotAt", "(II)I"⟩
abbrev cX6_isSpot : ByteArray := prog_8_method_3_code
def yX6_isSpot : MethodName := ⟨RX6, "isSpot", "(I)Z"⟩
abbrev cX6_beside : ByteArray := prog_8_method_4_code
def yX6_beside : MethodName := ⟨RX6, "beside", "(II)I"⟩
abbrev cX6_kindAt : ByteArray := prog_8_method_5_code
def yX6_kindAt : MethodName := ⟨RX6, "kindAt", "(I)I"⟩
abbrev cX6_isOpen : ByteArray := prog_8_method_6_code
def yX6_isOpen : MethodName := ⟨RX6, "isOpen", "(I)Z"⟩
abbrev cX6_openSpot : ByteArray := prog_8_method_7_code
def yX6_openSpot : MethodName := ⟨RX6, "openSpot", "(II)I"⟩
abbrev cX6_howMany : ByteArray := prog_8_method_8_code
def yX6_howMany : MethodName := ⟨RX6, "howMany", "(I)I"⟩
abbrev cX6_readFrom : ByteArray := prog_8_method_9_code
def yX6_readFrom : MethodName := ⟨RX6, "readFrom", "(LShadowCourt$Tape;)Z"⟩
abbrev cX6_readRow : ByteArray := prog_8_method_10_code
def yX6_readRow : MethodName := ⟨RX6, "readRow", "(LShadowCourt$Tape;I)Z"⟩
abbrev cX6_kindOf : ByteArray := prog_8_method_11_code
def yX6_kindOf : MethodName := ⟨RX6, "kindOf", "(I)I"⟩
abbrev cX6_timesOf : ByteArray := prog_8_method_12_code
def yX6_timesOf : MethodName := ⟨RX6, "timesOf", "(I)I"⟩
abbrev cX6_isDryWalk : ByteArray := prog_8_method_13_code
def yX6_isDryWalk : MethodName := ⟨RX6, "isDryWalk", "(II)Z"⟩
abbrev cX6_stepsBetween : ByteArray := prog_8_method_14_code
def yX6_stepsBetween : MethodName := ⟨RX6, "stepsBetween", "(II)I"⟩
abbrev cX6_reckonRow : ByteArray := prog_8_method_15_code
def yX6_reckonRow : MethodName := ⟨RX6, "reckonRow", "([IIZ)V"⟩
def RX7 : String := "ShadowCourt$Shadows"
def TX7 : u_T := fun k => match k with
  | 0 => ("ShadowCourt$Shadows", "layers", "[I", true)
  | 1 => ("ShadowCourt$Shadows", "spots", "[I", true)
  | 2 => ("ShadowCourt$Shadows", "isTaken", "[Z", true)
  | _ => ("ShadowCourt$Shadows", "size", "I", false)
def tyX7 : Nat → FieldType := fun k => match k with
  | 0 => .array .int
  | 1 => .array .int
  | 2 => .array .boolean
  | _ => .int
abbrev wsX70 : List Cond := u_ws RX7 TX7 4
theorem nmX7 : ∀ a, a < 4 → ∀ b, b < 4 → a ≠ b → (TX7 a).2.1 ≠ (TX7 b).2.1 := by decide +kernel
theorem tyX7_ok : ∀ k, k < 4 → parseFieldDescriptor (TX7 k).2.2.1 = some (tyX7 k) := by decide +kernel
abbrev cX7_init : ByteArray := prog_9_method_1_code
def yX7_init : MethodName := ⟨RX7, "<init>", "()V"⟩
abbrev cX7_clear : ByteArray := prog_9_method_2_code
def yX7_clear : MethodName := ⟨RX7, "clear", "()V"⟩
abbrev cX7_layersAt : ByteArray := prog_9_method_3_code
def yX7_layersAt : MethodName := ⟨RX7, "layersAt", "(I)I"⟩
abbrev cX7_fall : ByteArray := prog_9_method_4_code
def yX7_fall : MethodName := ⟨RX7, "fall", "(LShadowCourt$Market;III)V"⟩
abbrev cX7_howManyInMore : ByteArray := prog_9_method_5_code
def yX7_howManyInMore : MethodName := ⟨RX7, "howManyInMore", "()I"⟩
def RX8 : String := "ShadowCourt$Tape"
def TX8 : u_T := fun k => match k with
  | 0 => ("ShadowCourt$Tape", "bytes", "[I", true)
  | 1 => ("ShadowCourt$Tape", "length", "I", false)
  | 2 => ("ShadowCourt$Tape", "end", "I", false)
  | 3 => ("ShadowCourt$Tape", "at", "I", false)
  | _ => ("ShadowCourt$Tape", "fault", "I", false)
def tyX8 : Nat → FieldType := fun k => match k with
  | 0 => .array .int
  | 1 => .int
  | 2 => .int
  | 3 => .int
  | _ => .int
abbrev wsX80 : List Cond := u_ws RX8 TX8 5
theorem nmX8 : ∀ a, a < 5 → ∀ b, b < 5 → a ≠ b → (TX8 a).2.1 ≠ (TX8 b).2.1 := by decide +kernel
theorem tyX8_ok : ∀ k, k < 5 → parseFieldDescriptor (TX8 k).2.2.1 = some (tyX8 k) := by decide +kernel
abbrev cX8_init : ByteArray := prog_10_method_1_code
def yX8_init : MethodName := ⟨RX8, "<init>", "()V"⟩
abbrev cX8_putNumber : ByteArray := prog_10_method_2_code
def yX8_putNumber : MethodName := ⟨RX8, "putNumber", "(I)V"⟩
abbrev cX8_byteAt : ByteArray := prog_10_method_3_code
def yX8_byteAt : MethodName := ⟨RX8, "byteAt", "(I)I"⟩
abbrev cX8_numberAt : ByteArray := prog_10_method_4_code
def yX8_numberAt : MethodName := ⟨RX8, "numberAt", "(I)I"⟩
abbrev cX8_drop : ByteArray := prog_10_method_5_code
def yX8_drop : MethodName := ⟨RX8, "drop", "()V"⟩
abbrev cX8_open : ByteArray := prog_10_method_6_code
def yX8_open : MethodName := ⟨RX8, "open", "(I)V"⟩
abbrev cX8_sign : ByteArray := prog_10_method_7_code
def yX8_sign : MethodName := ⟨RX8, "sign", "()I"⟩
abbrev cX8_isDigit : ByteArray := prog_10_method_8_code
def yX8_isDigit : MethodName := ⟨RX8, "isDigit", "()Z"⟩
abbrev cX8_passes : ByteArray := prog_10_method_9_code
def yX8_passes : MethodName := ⟨RX8, "passes", "(I)Z"⟩
abbrev cX8_fails : ByteArray := prog_10_method_10_code
def yX8_fails : MethodName := ⟨RX8, "fails", "(II)Z"⟩
def RX9 : String := "ShadowCourt$WalkReader"
def TX9 : u_T := fun k => match k with
  | 0 => ("ShadowCourt$WalkReader", "tape", "LShadowCourt$Tape;", true)
  | 1 => ("ShadowCourt$WalkReader", "steps", "[I", true)
  | _ => ("ShadowCourt$WalkReader", "size", "I", false)
def tyX9 : Nat → FieldType := fun k => match k with
  | 0 => .object "ShadowCourt$Tape"
  | 1 => .array .int
  | _ => .int
abbrev wsX90 : List Cond := u_ws RX9 TX9 3
theorem nmX9 : ∀ a, a < 3 → ∀ b, b < 3 → a ≠ b → (TX9 a).2.1 ≠ (TX9 b).2.1 := by decide +kernel
theorem tyX9_ok : ∀ k, k < 3 → parseFieldDescriptor (TX9 k).2.2.1 = some (tyX9 k) := by decide +kernel
abbrev cX9_init : ByteArray := prog_11_method_1_code
def yX9_init : MethodName := ⟨RX9, "<init>", "(LShadowCourt$Tape;)V"⟩
abbrev cX9_readWhole : ByteArray := prog_11_method_2_code
def yX9_readWhole : MethodName := ⟨RX9, "readWhole", "()Z"⟩
abbrev cX9_copyOfSteps : ByteArray := prog_11_method_3_code
def yX9_copyOfSteps : MethodName := ⟨RX9, "copyOfSteps", "()[I"⟩
abbrev cX9_readSteps : ByteArray := prog_11_method_4_code
def yX9_readSteps : MethodName := ⟨RX9, "readSteps", "(I)Z"⟩
abbrev cX9_readStep : ByteArray := prog_11_method_5_code
def yX9_readStep : MethodName := ⟨RX9, "readStep", "(I)Z"⟩
abbrev cX9_repeat : ByteArray := prog_11_method_6_code
def yX9_repeat : MethodName := ⟨RX9, "repeat", "(II)Z"⟩
abbrev cX9_stepOf : ByteArray := prog_11_method_7_code
def yX9_stepOf : MethodName := ⟨RX9, "stepOf", "(I)I"⟩
def RX10 : String := "ShadowCourt"
def TX10 : u_T := fun k => match k with
  | 0 => ("ShadowCourt", "tape", "LShadowCourt$Tape;", true)
  | 1 => ("ShadowCourt", "market", "LShadowCourt$Market;", true)
  | 2 => ("ShadowCourt", "law", "LShadowCourt$Law;", true)
  | 3 => ("ShadowCourt", "lawReader", "LShadowCourt$LawReader;", true)
  | 4 => ("ShadowCourt", "walkReader", "LShadowCourt$WalkReader;", true)
  | 5 => ("ShadowCourt", "clock", "LShadowCourt$Clock;", true)
  | 6 => ("ShadowCourt", "foresight", "LShadowCourt$Foresight;", true)
  | 7 => ("ShadowCourt", "crowd", "LShadowCourt$Crowd;", true)
  | 8 => ("ShadowCourt", "now", "LShadowCourt$Day;", true)
  | 9 => ("ShadowCourt", "kept", "LShadowCourt$Day;", true)
  | 10 => ("ShadowCourt", "groupOf", "[I", true)
  | _ => ("ShadowCourt", "isKept", "Z", false)
def tyX10 : Nat → FieldType := fun k => match k with
  | 0 => .object "ShadowCourt$Tape"
  | 1 => .object "ShadowCourt$Market"
  | 2 => .object "ShadowCourt$Law"
  | 3 => .object "ShadowCourt$LawReader"
  | 4 => .object "ShadowCourt$WalkReader"
  | 5 => .object "ShadowCourt$Clock"
  | 6 => .object "ShadowCourt$Foresight"
  | 7 => .object "ShadowCourt$Crowd"
  | 8 => .object "ShadowCourt$Day"
  | 9 => .object "ShadowCourt$Day"
  | 10 => .array .int
  | _ => .boolean
abbrev wsX100 : List Cond := u_ws RX10 TX10 12
theorem nmX10 : ∀ a, a < 12 → ∀ b, b < 12 → a ≠ b → (TX10 a).2.1 ≠ (TX10 b).2.1 := by decide +kernel
theorem tyX10_ok : ∀ k, k < 12 → parseFieldDescriptor (TX10 k).2.2.1 = some (tyX10 k) := by decide +kernel
abbrev cX10_init : ByteArray := prog_1_method_1_code
def yX10_init : MethodName := ⟨RX10, "<init>", "()V"⟩
abbrev cX10_feed : ByteArray := prog_1_method_2_code
def yX10_feed : MethodName := ⟨RX10, "feed", "(IIIII)I"⟩
abbrev cX10_market : ByteArray := prog_1_method_3_code
def yX10_market : MethodName := ⟨RX10, "market", "(I)I"⟩
abbrev cX10_law : ByteArray := prog_1_method_4_code
def yX10_law : MethodName := ⟨RX10, "law", "(I)I"⟩
abbrev cX10_judge : ByteArray := prog_1_method_5_code
def yX10_judge : MethodName := ⟨RX10, "judge", "(III)Z"⟩
abbrev cX10_walk : ByteArray := prog_1_method_6_code
def yX10_walk : MethodName := ⟨RX10, "walk", "(II)I"⟩
abbrev cX10_felon : ByteArray := prog_1_method_7_code
def yX10_felon : MethodName := ⟨RX10, "felon", "(IIII)Z"⟩
abbrev cX10_lamp : ByteArray := prog_1_method_8_code
def yX10_lamp : MethodName := ⟨RX10, "lamp", "(III)Z"⟩
abbrev cX10_minutes : ByteArray := prog_1_method_9_code
def yX10_minutes : MethodName := ⟨RX10, "minutes", "(I)I"⟩
abbrev cX10_tried : ByteArray := prog_1_method_10_code
def yX10_tried : MethodName := ⟨RX10, "tried", "(II)I"⟩
abbrev cX10_felonIs : ByteArray := prog_1_method_11_code
def yX10_felonIs : MethodName := ⟨RX10, "felonIs", "(II)I"⟩
abbrev cX10_shade : ByteArray := prog_1_method_12_code
def yX10_shade : MethodName := ⟨RX10, "shade", "(II)I"⟩
abbrev cX10_atOnce : ByteArray := prog_1_method_13_code
def yX10_atOnce : MethodName := ⟨RX10, "atOnce", "(I)I"⟩
abbrev cX10_fewest : ByteArray := prog_1_method_14_code
def yX10_fewest : MethodName := ⟨RX10, "fewest", "(III)I"⟩
abbrev cX10_home : ByteArray := prog_1_method_15_code
def yX10_home : MethodName := ⟨RX10, "home", "(III)I"⟩
abbrev cX10_first : ByteArray := prog_1_method_16_code
def yX10_first : MethodName := ⟨RX10, "first", "(II)I"⟩
abbrev cX10_dark : ByteArray := prog_1_method_17_code
def yX10_dark : MethodName := ⟨RX10, "dark", "(II)I"⟩
abbrev cX10_hung : ByteArray := prog_1_method_18_code
def yX10_hung : MethodName := ⟨RX10, "hung", "(I)I"⟩
abbrev cX10_prints : ByteArray := prog_1_method_19_code
def yX10_prints : MethodName := ⟨RX10, "prints", "(II)I"⟩
abbrev cX10_cloudy : ByteArray := prog_1_method_20_code
def yX10_cloudy : MethodName := ⟨RX10, "cloudy", "(III)I"⟩
abbrev cX10_together : ByteArray := prog_1_method_21_code
def yX10_together : MethodName := ⟨RX10, "together", "(II)I"⟩
abbrev cX10_servedBy : ByteArray := prog_1_method_22_code
def yX10_servedBy : MethodName := ⟨RX10, "servedBy", "(II)I"⟩
abbrev cX10_seed : ByteArray := prog_1_method_23_code
def yX10_seed : MethodName := ⟨RX10, "seed", "(I)Z"⟩
abbrev cX10_keep : ByteArray := prog_1_method_24_code
def yX10_keep : MethodName := ⟨RX10, "keep", "()I"⟩
abbrev cX10_undo : ByteArray := prog_1_method_25_code
def yX10_undo : MethodName := ⟨RX10, "undo", "()Z"⟩
abbrev cX10_check : ByteArray := prog_1_method_26_code
def yX10_check : MethodName := ⟨RX10, "check", "(I)I"⟩
abbrev cX10_count : ByteArray := prog_1_method_27_code
def yX10_count : MethodName := ⟨RX10, "count", "(I)I"⟩
abbrev cX10_isIn : ByteArray := prog_1_method_28_code
def yX10_isIn : MethodName := ⟨RX10, "isIn", "(III)Z"⟩
abbrev cX10_bitsOfTold : ByteArray := prog_1_method_29_code
def yX10_bitsOfTold : MethodName := ⟨RX10, "bitsOfTold", "([I)I"⟩
abbrev cX10_sendAwayWhoCannotStand : ByteArray := prog_1_method_30_code
def yX10_sendAwayWhoCannotStand : MethodName := ⟨RX10, "sendAwayWhoCannotStand", "()V"⟩
abbrev cX10_canBeTried : ByteArray := prog_1_method_31_code
def yX10_canBeTried : MethodName := ⟨RX10, "canBeTried", "(I)Z"⟩
abbrev cX10_isFreeForLamp : ByteArray := prog_1_method_32_code
def yX10_isFreeForLamp : MethodName := ⟨RX10, "isFreeForLamp", "(I)Z"⟩
abbrev cX10_holds : ByteArray := prog_1_method_33_code
def yX10_holds : MethodName := ⟨RX10, "holds", "([II)Z"⟩
abbrev cX10_hasBytesBeyond : ByteArray := prog_1_method_34_code
def yX10_hasBytesBeyond : MethodName := ⟨RX10, "hasBytesBeyond", "(III)Z"⟩
abbrev cX10_brokenPrint : ByteArray := prog_1_method_35_code
def yX10_brokenPrint : MethodName := ⟨RX10, "brokenPrint", "(I)I"⟩
abbrev cX10_printStarters : ByteArray := prog_1_method_36_code
def yX10_printStarters : MethodName := ⟨RX10, "printStarters", "()I"⟩
abbrev cX10_printMakers : ByteArray := prog_1_method_37_code
def yX10_printMakers : MethodName := ⟨RX10, "printMakers", "(I)I"⟩
abbrev cX10_printsFailAt : ByteArray := prog_1_method_38_code
def yX10_printsFailAt : MethodName := ⟨RX10, "printsFailAt", "(I)I"⟩
abbrev cX10_cloudySets : ByteArray := prog_1_method_39_code
def yX10_cloudySets : MethodName := ⟨RX10, "cloudySets", "(III)I"⟩
abbrev cX10_servedOutside : ByteArray := prog_1_method_40_code
def yX10_servedOutside : MethodName := ⟨RX10, "servedOutside", "(II)I"⟩
abbrev cX10_areAllPlaces : ByteArray := prog_1_method_41_code
def yX10_areAllPlaces : MethodName := ⟨RX10, "areAllPlaces", "(II)Z"⟩
abbrev cX10_sentencesTogether : ByteArray := prog_1_method_42_code
def yX10_sentencesTogether : MethodName := ⟨RX10, "sentencesTogether", "(III)I"⟩
abbrev cX10_groupSentences : ByteArray := prog_1_method_43_code
def yX10_groupSentences : MethodName := ⟨RX10, "groupSentences", "(II)V"⟩
abbrev cX10_joinGroups : ByteArray := prog_1_method_44_code
def yX10_joinGroups : MethodName := ⟨RX10, "joinGroups", "(III)V"⟩
abbrev cX10_longestOfGroup : ByteArray := prog_1_method_45_code
def yX10_longestOfGroup : MethodName := ⟨RX10, "longestOfGroup", "(II)I"⟩
def RX11 : String := "ShadowCourtModel"
def TX11 : u_T := fun k => match k with
  | 0 => ("ShadowCourtModel", "now", "[I", true)
  | 1 => ("ShadowCourtModel", "aside", "[I", true)
  | 2 => ("ShadowCourtModel", "kept", "[I", true)
  | 3 => ("ShadowCourtModel", "kindOf", "[I", true)
  | 4 => ("ShadowCourtModel", "lampAt", "[I", true)
  | 5 => ("ShadowCourtModel", "walkMany", "[I", true)
  | 6 => ("ShadowCourtModel", "walkStep", "[B", true)
  | 7 => ("ShadowCourtModel", "tape", "[B", true)
  | 8 => ("ShadowCourtModel", "taped", "I", false)
  | 9 => ("ShadowCourtModel", "place0", "I", false)
  | 10 => ("ShadowCourtModel", "length0", "I", false)
  | 11 => ("ShadowCourtModel", "fault", "I", false)
  | 12 => ("ShadowCourtModel", "number0", "I", false)
  | 13 => ("ShadowCourtModel", "open", "I", false)
  | 14 => ("ShadowCourtModel", "codeMany", "I", false)
  | 15 => ("ShadowCourtModel", "waiting", "I", false)
  | 16 => ("ShadowCourtModel", "saidMany", "I", false)
  | 17 => ("ShadowCourtModel", "clauses", "I", false)
  | 18 => ("ShadowCourtModel", "said", "[I", true)
  | 19 => ("ShadowCourtModel", "waitsAt", "[I", true)
  | 20 => ("ShadowCourtModel", "saidLetter", "[I", true)
  | 21 => ("ShadowCourtModel", "saidFrom", "[I", true)
  | 22 => ("ShadowCourtModel", "saidHalf", "[I", true)
  | 23 => ("ShadowCourtModel", "saidTo", "[I", true)
  | 24 => ("ShadowCourtModel", "codes", "[I", true)
  | 25 => ("ShadowCourtModel", "clauseOf", "[I", true)
  | 26 => ("ShadowCourtModel", "codeFrom", "[I", true)
  | 27 => ("ShadowCourtModel", "codeHalf", "[I", true)
  | 28 => ("ShadowCourtModel", "codeTo", "[I", true)
  | 29 => ("ShadowCourtModel", "newKind", "[I", true)
  | 30 => ("ShadowCourtModel", "newStep", "[B", true)
  | 31 => ("ShadowCourtModel", "roundFrom", "[I", true)
  | 32 => ("ShadowCourtModel", "roundAt", "[I", true)
  | 33 => ("ShadowCourtModel", "roundTimes", "[I", true)
  | 34 => ("ShadowCourtModel", "newMany", "I", false)
  | 35 => ("ShadowCourtModel", "rounds", "I", false)
  | 36 => ("ShadowCourtModel", "stepFrom", "I", false)
  | 37 => ("ShadowCourtModel", "stepTimes", "I", false)
  | 38 => ("ShadowCourtModel", "stack", "[I", true)
  | 39 => ("ShadowCourtModel", "facts", "[I", true)
  | 40 => ("ShadowCourtModel", "shades", "[I", true)
  | 41 => ("ShadowCourtModel", "servedNow", "I", false)
  | 42 => ("ShadowCourtModel", "awayNow", "I", false)
  | 43 => ("ShadowCourtModel", "cloudyNow", "I", false)
  | 44 => ("ShadowCourtModel", "stepsNow", "I", false)
  | 45 => ("ShadowCourtModel", "costTo", "[I", true)
  | 46 => ("ShadowCourtModel", "orderOf", "[I", true)
  | 47 => ("ShadowCourtModel", "rankOf", "[I", true)
  | 48 => ("ShadowCourtModel", "goesFirst", "I", false)
  | 49 => ("ShadowCourtModel", "isTaken", "[Z", true)
  | 50 => ("ShadowCourtModel", "canStand", "[Z", true)
  | 51 => ("ShadowCourtModel", "reachOf", "[I", true)
  | 52 => ("ShadowCourtModel", "fewOf", "[I", true)
  | 53 => ("ShadowCourtModel", "fewThen", "[I", true)
  | 54 => ("ShadowCourtModel", "stepsFrom", "[I", true)
  | 55 => ("ShadowCourtModel", "darkOf", "[I", true)
  | 56 => ("ShadowCourtModel", "groupOf", "[I", true)
  | 57 => ("ShadowCourtModel", "longOf", "[I", true)
  | 58 => ("ShadowCourtModel", "isKept", "Z", false)
  | 59 => ("ShadowCourtModel", "keptMany", "[I", true)
  | _ => ("ShadowCourtModel", "keptStep", "[B", true)
def tyX11 : Nat → FieldType := fun k => match k with
  | 0 => .array .int
  | 1 => .array .int
  | 2 => .array .int
  | 3 => .array .int
  | 4 => .array .int
  | 5 => .array .int
  | 6 => .array .byte
  | 7 => .array .byte
  | 8 => .int
  | 9 => .int
  | 10 => .int
  | 11 => .int
  | 12 => .int
  | 13 => .int
  | 14 => .int
  | 15 => .int
  | 16 => .int
  | 17 => .int
  | 18 => .array .int
  | 19 => .array .int
  | 20 => .array .int
  | 21 => .array .int
  | 22 => .array .int
  | 23 => .array .int
  | 24 => .array .int
  | 25 => .array .int
  | 26 => .array .int
  | 27 => .array .int
  | 28 => .array .int
  | 29 => .array .int
  | 30 => .array .byte
  | 31 => .array .int
  | 32 => .array .int
  | 33 => .array .int
  | 34 => .int
  | 35 => .int
  | 36 => .int
  | 37 => .int
  | 38 => .array .int
  | 39 => .array .int
  | 40 => .array .int
  | 41 => .int
  | 42 => .int
  | 43 => .int
  | 44 => .int
  | 45 => .array .int
  | 46 => .array .int
  | 47 => .array .int
  | 48 => .int
  | 49 => .array .boolean
  | 50 => .array .boolean
  | 51 => .array .int
  | 52 => .array .int
  | 53 => .array .int
  | 54 => .array .int
  | 55 => .array .int
  | 56 => .array .int
  | 57 => .array .int
  | 58 => .boolean
  | 59 => .array .int
  | _ => .array .byte
abbrev wsX110 : List Cond := u_ws RX11 TX11 61
theorem nmX11 : ∀ a, a < 61 → ∀ b, b < 61 → a ≠ b → (TX11 a).2.1 ≠ (TX11 b).2.1 := by decide +kernel
theorem tyX11_ok : ∀ k, k < 61 → parseFieldDescriptor (TX11 k).2.2.1 = some (tyX11 k) := by decide +kernel
abbrev cX11_init : ByteArray := prog_13_method_1_code
def yX11_init : MethodName := ⟨RX11, "<init>", "()V"⟩
abbrev cX11_in : ByteArray := prog_13_method_2_code
def yX11_in : MethodName := ⟨RX11, "in", "(III)Z"⟩
abbrev cX11_min : ByteArray := prog_13_method_3_code
def yX11_min : MethodName := ⟨RX11, "min", "(II)I"⟩
abbrev cX11_max : ByteArray := prog_13_method_4_code
def yX11_max : MethodName := ⟨RX11, "max", "(II)I"⟩
abbrev cX11_has : ByteArray := prog_13_method_6_code
def yX11_has : MethodName := ⟨RX11, "has", "(II)Z"⟩
abbrev cX11_bits : ByteArray := prog_13_method_7_code
def yX11_bits : MethodName := ⟨RX11, "bits", "(I)I"⟩
abbrev cX11_isFive : ByteArray := prog_13_method_8_code
def yX11_isFive : MethodName := ⟨RX11, "isFive", "(II)Z"⟩
abbrev cX11_isJudge : ByteArray := prog_13_method_9_code
def yX11_isJudge : MethodName := ⟨RX11, "isJudge", "(I)Z"⟩
abbrev cX11_isFelon : ByteArray := prog_13_method_10_code
def yX11_isFelon : MethodName := ⟨RX11, "isFelon", "(I)Z"⟩
abbrev cX11_owes : ByteArray := prog_13_method_11_code
def yX11_owes : MethodName := ⟨RX11, "owes", "(I)Z"⟩
abbrev cX11_isOn : ByteArray := prog_13_method_12_code
def yX11_isOn : MethodName := ⟨RX11, "isOn", "(II)Z"⟩
abbrev cX11_isGround : ByteArray := prog_13_method_13_code
def yX11_isGround : MethodName := ⟨RX11, "isGround", "(I)Z"⟩
abbrev cX11_wayX : ByteArray := prog_13_method_14_code
def yX11_wayX : MethodName := ⟨RX11, "wayX", "(I)I"⟩
abbrev cX11_wayY : ByteArray := prog_13_method_15_code
def yX11_wayY : MethodName := ⟨RX11, "wayY", "(I)I"⟩
abbrev cX11_beside : ByteArray := prog_13_method_16_code
def yX11_beside : MethodName := ⟨RX11, "beside", "(II)I"⟩
abbrev cX11_types : ByteArray := prog_13_method_17_code
def yX11_types : MethodName := ⟨RX11, "types", "(I)V"⟩
abbrev cX11_feed : ByteArray := prog_13_method_18_code
def yX11_feed : MethodName := ⟨RX11, "feed", "(IIIII)I"⟩
abbrev cX11_here : ByteArray := prog_13_method_19_code
def yX11_here : MethodName := ⟨RX11, "here", "()I"⟩
abbrev cX11_isDigit : ByteArray := prog_13_method_20_code
def yX11_isDigit : MethodName := ⟨RX11, "isDigit", "()Z"⟩
abbrev cX11_wrongAt : ByteArray := prog_13_method_21_code
def yX11_wrongAt : MethodName := ⟨RX11, "wrongAt", "(II)Z"⟩
abbrev cX11_takes : ByteArray := prog_13_method_22_code
def yX11_takes : MethodName := ⟨RX11, "takes", "(I)Z"⟩
abbrev cX11_readsNumber : ByteArray := prog_13_method_23_code
def yX11_readsNumber : MethodName := ⟨RX11, "readsNumber", "()Z"⟩
abbrev cX11_notes : ByteArray := prog_13_method_24_code
def yX11_notes : MethodName := ⟨RX11, "notes", "(II)V"⟩
abbrev cX11_opens : ByteArray := prog_13_method_25_code
def yX11_opens : MethodName := ⟨RX11, "opens", "(I)Z"⟩
abbrev cX11_waitTop : ByteArray := prog_13_method_26_code
def yX11_waitTop : MethodName := ⟨RX11, "waitTop", "()I"⟩
abbrev cX11_factOf : ByteArray := prog_13_method_27_code
def yX11_factOf : MethodName := ⟨RX11, "factOf", "(I)I"⟩
abbrev cX11_sumSign : ByteArray := prog_13_method_28_code
def yX11_sumSign : MethodName := ⟨RX11, "sumSign", "(I)I"⟩
abbrev cX11_closesSums : ByteArray := prog_13_method_29_code
def yX11_closesSums : MethodName := ⟨RX11, "closesSums", "(Z)V"⟩
abbrev cX11_readsFactor : ByteArray := prog_13_method_30_code
def yX11_readsFactor : MethodName := ⟨RX11, "readsFactor", "()Z"⟩
abbrev cX11_hasOpenSum : ByteArray := prog_13_method_31_code
def yX11_hasOpenSum : MethodName := ⟨RX11, "hasOpenSum", "(I)Z"⟩
abbrev cX11_readsSum : ByteArray := prog_13_method_32_code
def yX11_readsSum : MethodName := ⟨RX11, "readsSum", "()Z"⟩
abbrev cX11_endsPiece : ByteArray := prog_13_method_33_code
def yX11_endsPiece : MethodName := ⟨RX11, "endsPiece", "()V"⟩
abbrev cX11_lands : ByteArray := prog_13_method_34_code
def yX11_lands : MethodName := ⟨RX11, "lands", "(Z)V"⟩
abbrev cX11_jumps : ByteArray := prog_13_method_35_code
def yX11_jumps : MethodName := ⟨RX11, "jumps", "(I)V"⟩
abbrev cX11_readsCompared : ByteArray := prog_13_method_36_code
def yX11_readsCompared : MethodName := ⟨RX11, "readsCompared", "()Z"⟩
abbrev cX11_readsCondition : ByteArray := prog_13_method_37_code
def yX11_readsCondition : MethodName := ⟨RX11, "readsCondition", "()Z"⟩
abbrev cX11_isSpotSign : ByteArray := prog_13_method_38_code
def yX11_isSpotSign : MethodName := ⟨RX11, "isSpotSign", "(I)Z"⟩
abbrev cX11_isTimes : ByteArray := prog_13_method_39_code
def yX11_isTimes : MethodName := ⟨RX11, "isTimes", "(I)Z"⟩
abbrev cX11_readsRow : ByteArray := prog_13_method_40_code
def yX11_readsRow : MethodName := ⟨RX11, "readsRow", "(I)Z"⟩
abbrev cX11_market : ByteArray := prog_13_method_41_code
def yX11_market : MethodName := ⟨RX11, "market", "(I)I"⟩
abbrev cX11_judge : ByteArray := prog_13_method_42_code
def yX11_judge : MethodName := ⟨RX11, "judge", "(III)Z"⟩
abbrev cX11_felon : ByteArray := prog_13_method_43_code
def yX11_felon : MethodName := ⟨RX11, "felon", "(IIII)Z"⟩
abbrev cX11_lamp : ByteArray := prog_13_method_44_code
def yX11_lamp : MethodName := ⟨RX11, "lamp", "(III)Z"⟩
abbrev cX11_wayOf : ByteArray := prog_13_method_45_code
def yX11_wayOf : MethodName := ⟨RX11, "wayOf", "(I)I"⟩
abbrev cX11_repeats : ByteArray := prog_13_method_46_code
def yX11_repeats : MethodName := ⟨RX11, "repeats", "(III)Z"⟩
abbrev cX11_readsTimes : ByteArray := prog_13_method_47_code
def yX11_readsTimes : MethodName := ⟨RX11, "readsTimes", "()V"⟩
abbrev cX11_readsStep : ByteArray := prog_13_method_48_code
def yX11_readsStep : MethodName := ⟨RX11, "readsStep", "()Z"⟩
abbrev cX11_walk : ByteArray := prog_13_method_49_code
def yX11_walk : MethodName := ⟨RX11, "walk", "(II)I"⟩
abbrev cX11_isClause : ByteArray := prog_13_method_50_code
def yX11_isClause : MethodName := ⟨RX11, "isClause", "(I)Z"⟩
abbrev cX11_readsClause : ByteArray := prog_13_method_51_code
def yX11_readsClause : MethodName := ⟨RX11, "readsClause", "()Z"⟩
abbrev cX11_law : ByteArray := prog_13_method_52_code
def yX11_law : MethodName := ⟨RX11, "law", "(I)I"⟩
abbrev cX11_reckon : ByteArray := prog_13_method_53_code
def yX11_reckon : MethodName := ⟨RX11, "reckon", "(III)I"⟩
abbrev cX11_comesTo : ByteArray := prog_13_method_54_code
def yX11_comesTo : MethodName := ⟨RX11, "comesTo", "(II)I"⟩
abbrev cX11_byLaw : ByteArray := prog_13_method_55_code
def yX11_byLaw : MethodName := ⟨RX11, "byLaw", "(II)I"⟩
abbrev cX11_feels : ByteArray := prog_13_method_56_code
def yX11_feels : MethodName := ⟨RX11, "feels", "(I)V"⟩
abbrev cX11_isNight : ByteArray := prog_13_method_57_code
def yX11_isNight : MethodName := ⟨RX11, "isNight", "(I)Z"⟩
abbrev cX11_byFelon : ByteArray := prog_13_method_58_code
def yX11_byFelon : MethodName := ⟨RX11, "byFelon", "(III)I"⟩
abbrev cX11_falls : ByteArray := prog_13_method_59_code
def yX11_falls : MethodName := ⟨RX11, "falls", "(III)V"⟩
abbrev cX11_fallsOf : ByteArray := prog_13_method_60_code
def yX11_fallsOf : MethodName := ⟨RX11, "fallsOf", "(II)V"⟩
abbrev cX11_fallsBehind : ByteArray := prog_13_method_61_code
def yX11_fallsBehind : MethodName := ⟨RX11, "fallsBehind", "(II)V"⟩
abbrev cX11_bares : ByteArray := prog_13_method_62_code
def yX11_bares : MethodName := ⟨RX11, "bares", "()V"⟩
abbrev cX11_fallsByLamps : ByteArray := prog_13_method_63_code
def yX11_fallsByLamps : MethodName := ⟨RX11, "fallsByLamps", "()V"⟩
abbrev cX11_laysShades : ByteArray := prog_13_method_64_code
def yX11_laysShades : MethodName := ⟨RX11, "laysShades", "(IZ)V"⟩
abbrev cX11_steps : ByteArray := prog_13_method_65_code
def yX11_steps : MethodName := ⟨RX11, "steps", "(II)V"⟩
abbrev cX11_walksOn : ByteArray := prog_13_method_66_code
def yX11_walksOn : MethodName := ⟨RX11, "walksOn", "(I)V"⟩
abbrev cX11_laysCosts : ByteArray := prog_13_method_67_code
def yX11_laysCosts : MethodName := ⟨RX11, "laysCosts", "(IIZ)V"⟩
abbrev cX11_laysOrder : ByteArray := prog_13_method_68_code
def yX11_laysOrder : MethodName := ⟨RX11, "laysOrder", "()I"⟩
abbrev cX11_findsFor : ByteArray := prog_13_method_69_code
def yX11_findsFor : MethodName := ⟨RX11, "findsFor", "(I)I"⟩
abbrev cX11_servesOf : ByteArray := prog_13_method_70_code
def yX11_servesOf : MethodName := ⟨RX11, "servesOf", "(IZ)V"⟩
abbrev cX11_draws : ByteArray := prog_13_method_71_code
def yX11_draws : MethodName := ⟨RX11, "draws", "()I"⟩
abbrev cX11_shadesGo : ByteArray := prog_13_method_72_code
def yX11_shadesGo : MethodName := ⟨RX11, "shadesGo", "()V"⟩
abbrev cX11_begins : ByteArray := prog_13_method_73_code
def yX11_begins : MethodName := ⟨RX11, "begins", "()V"⟩
abbrev cX11_minutesGo : ByteArray := prog_13_method_74_code
def yX11_minutesGo : MethodName := ⟨RX11, "minutesGo", "(I)V"⟩
abbrev cX11_minutes : ByteArray := prog_13_method_75_code
def yX11_minutes : MethodName := ⟨RX11, "minutes", "(I)I"⟩
abbrev cX11_copies : ByteArray := prog_13_method_76_code
def yX11_copies : MethodName := ⟨RX11, "copies", "([I[I)V"⟩
abbrev cX11_freeMany : ByteArray := prog_13_method_77_code
def yX11_freeMany : MethodName := ⟨RX11, "freeMany", "()I"⟩
abbrev cX11_tried : ByteArray := prog_13_method_78_code
def yX11_tried : MethodName := ⟨RX11, "tried", "(II)I"⟩
abbrev cX11_felonIs : ByteArray := prog_13_method_79_code
def yX11_felonIs : MethodName := ⟨RX11, "felonIs", "(II)I"⟩
abbrev cX11_shade : ByteArray := prog_13_method_80_code
def yX11_shade : MethodName := ⟨RX11, "shade", "(II)I"⟩
abbrev cX11_laysReach : ByteArray := prog_13_method_81_code
def yX11_laysReach : MethodName := ⟨RX11, "laysReach", "()V"⟩
abbrev cX11_mostAtOnce : ByteArray := prog_13_method_82_code
def yX11_mostAtOnce : MethodName := ⟨RX11, "mostAtOnce", "()I"⟩
abbrev cX11_atOnce : ByteArray := prog_13_method_83_code
def yX11_atOnce : MethodName := ⟨RX11, "atOnce", "(I)I"⟩
abbrev cX11_laysSteps : ByteArray := prog_13_method_84_code
def yX11_laysSteps : MethodName := ⟨RX11, "laysSteps", "()V"⟩
abbrev cX11_goesFew : ByteArray := prog_13_method_85_code
def yX11_goesFew : MethodName := ⟨RX11, "goesFew", "(I)V"⟩
abbrev cX11_fewest : ByteArray := prog_13_method_86_code
def yX11_fewest : MethodName := ⟨RX11, "fewest", "(III)I"⟩
abbrev cX11_stepIn : ByteArray := prog_13_method_87_code
def yX11_stepIn : MethodName := ⟨RX11, "stepIn", "(III)I"⟩
abbrev cX11_servedIn : ByteArray := prog_13_method_88_code
def yX11_servedIn : MethodName := ⟨RX11, "servedIn", "(III)I"⟩
abbrev cX11_home : ByteArray := prog_13_method_89_code
def yX11_home : MethodName := ⟨RX11, "home", "(III)I"⟩
abbrev cX11_isFree : ByteArray := prog_13_method_90_code
def yX11_isFree : MethodName := ⟨RX11, "isFree", "(I)Z"⟩
abbrev cX11_hung : ByteArray := prog_13_method_91_code
def yX11_hung : MethodName := ⟨RX11, "hung", "(I)I"⟩
abbrev cX11_servedFirst : ByteArray := prog_13_method_92_code
def yX11_servedFirst : MethodName := ⟨RX11, "servedFirst", "(II)I"⟩
abbrev cX11_first : ByteArray := prog_13_method_93_code
def yX11_first : MethodName := ⟨RX11, "first", "(II)I"⟩
abbrev cX11_laysDark : ByteArray := prog_13_method_94_code
def yX11_laysDark : MethodName := ⟨RX11, "laysDark", "(I)V"⟩
abbrev cX11_dark : ByteArray := prog_13_method_95_code
def yX11_dark : MethodName := ⟨RX11, "dark", "(II)I"⟩
abbrev cX11_areSpots : ByteArray := prog_13_method_96_code
def yX11_areSpots : MethodName := ⟨RX11, "areSpots", "(I)Z"⟩
abbrev cX11_failsAt : ByteArray := prog_13_method_97_code
def yX11_failsAt : MethodName := ⟨RX11, "failsAt", "(I)I"⟩
abbrev cX11_prints : ByteArray := prog_13_method_98_code
def yX11_prints : MethodName := ⟨RX11, "prints", "(II)I"⟩
abbrev cX11_cloudy : ByteArray := prog_13_method_99_code
def yX11_cloudy : MethodName := ⟨RX11, "cloudy", "(III)I"⟩
abbrev cX11_together : ByteArray := prog_13_method_100_code
def yX11_together : MethodName := ⟨RX11, "together", "(II)I"⟩
abbrev cX11_binds : ByteArray := prog_13_method_101_code
def yX11_binds : MethodName := ⟨RX11, "binds", "(III)V"⟩
abbrev cX11_servedBy : ByteArray := prog_13_method_102_code
def yX11_servedBy : MethodName := ⟨RX11, "servedBy", "(II)I"⟩
abbrev cX11_seed : ByteArray := prog_13_method_103_code
def yX11_seed : MethodName := ⟨RX11, "seed", "(I)Z"⟩
abbrev cX11_copiesWalks : ByteArray := prog_13_method_104_code
def yX11_copiesWalks : MethodName := ⟨RX11, "copiesWalks", "([I[B[I[B)V"⟩
abbrev cX11_keep : ByteArray := prog_13_method_105_code
def yX11_keep : MethodName := ⟨RX11, "keep", "()I"⟩
abbrev cX11_undo : ByteArray := prog_13_method_106_code
def yX11_undo : MethodName := ⟨RX11, "undo", "()Z"⟩
abbrev cX11_tapeNumber : ByteArray := prog_13_method_107_code
def yX11_tapeNumber : MethodName := ⟨RX11, "tapeNumber", "(I)I"⟩
abbrev cX11_check : ByteArray := prog_13_method_108_code
def yX11_check : MethodName := ⟨RX11, "check", "(I)I"⟩
abbrev cX11_owedAll : ByteArray := prog_13_method_109_code
def yX11_owedAll : MethodName := ⟨RX11, "owedAll", "()I"⟩
abbrev cX11_lampSet : ByteArray := prog_13_method_110_code
def yX11_lampSet : MethodName := ⟨RX11, "lampSet", "()I"⟩
abbrev cX11_count : ByteArray := prog_13_method_111_code
def yX11_count : MethodName := ⟨RX11, "count", "(I)I"⟩
def RJ9 : String := "java/lang/Math"
def TJ9 : u_T := fun k => match k with
  | _ => ("", "", "", false)
def tyJ9 : Nat → FieldType := fun k => match k with
  | _ => .int
abbrev wsJ90 : List Cond := u_ws RJ9 TJ9 0
theorem nmJ9 : ∀ a, a < 0 → ∀ b, b < 0 → a ≠ b → (TJ9 a).2.1 ≠ (TJ9 b).2.1 := by decide +kernel
theorem tyJ9_ok : ∀ k, k < 0 → parseFieldDescriptor (TJ9 k).2.2.1 = some (tyJ9 k) := by decide +kernel
abbrev cJ9_max_7cf53 : ByteArray := prog_14_method_65_code
def yJ9_max_7cf53 : MethodName := ⟨RJ9, "max", "(II)I"⟩
abbrev cJ9_min_7cf53 : ByteArray := prog_14_method_69_code
def yJ9_min_7cf53 : MethodName := ⟨RJ9, "min", "(II)I"⟩
def RJ10 : String := "java/lang/System"
def TJ10 : u_T := fun k => match k with
  | _ => ("", "", "", false)
def tyJ10 : Nat → FieldType := fun k => match k with
  | _ => .int
abbrev wsJ100 : List Cond := u_ws RJ10 TJ10 0
theorem nmJ10 : ∀ a, a < 0 → ∀ b, b < 0 → a ≠ b → (TJ10 a).2.1 ≠ (TJ10 b).2.1 := by decide +kernel
theorem tyJ10_ok : ∀ k, k < 0 → parseFieldDescriptor (TJ10 k).2.2.1 = some (tyJ10 k) := by decide +kernel
def RL : String := "ShadowCourtLaw"
abbrev cL_law : ByteArray := code
abbrev vwCl : List vw_C := [(RX0, TX0, 6), (RX1, TX1, 6), (RX2, TX2, 12), (RX3, TX3, 11), (RX4, TX4, 9), (RX5, TX5, 2), (RX6, TX6, 5), (RX7, TX7, 4), (RX8, TX8, 5), (RX9, TX9, 3), (RX10, TX10, 12), (RX11, TX11, 61)]
end
section
/-! ===== ints as Int: xJ a is the int whose number is a (wrapped) ===== -/
def xJ (a : Int) : Int32 := Int32.ofInt a
abbrev xR (a : Int) : Prop := -2147483648 ≤ a ∧ a ≤ 2147483647
theorem xJ_toInt {a : Int} (h : xR a) : (xJ a).toInt = a := Int32.toInt_ofInt_of_le (by omega) (by omega)
theorem xJ_of (x : Int32) : xJ x.toInt = x := Int32.ofInt_toInt x
theorem xR_of (x : Int32) : xR x.toInt := by
  have h1 := Int32.toInt_lt x
  have h2 := Int32.le_toInt x
  omega
theorem xJ_ex (x : Int32) : ∃ a : Int, x = xJ a ∧ xR a := ⟨x.toInt, (xJ_of x).symm, xR_of x⟩
theorem xJ_add (a b : Int) : xJ a + xJ b = xJ (a + b) := (Int32.ofInt_add a b).symm
theorem xJ_sub (a b : Int) : xJ a - xJ b = xJ (a - b) := (Int32.ofInt_sub a b).symm
theorem xJ_mul (a b : Int) : xJ a * xJ b = xJ (a * b) := (Int32.ofInt_mul a b).symm
theorem xJ_lt {a b : Int} (ha : xR a) (hb : xR b) : xJ a < xJ b ↔ a < b := by rw [Int32.lt_iff_toInt_lt, xJ_toInt ha, xJ_toInt hb]
theorem xJ_le {a b : Int} (ha : xR a) (hb : xR b) : xJ a ≤ xJ b ↔ a ≤ b := by rw [Int32.le_iff_toInt_le, xJ_toInt ha, xJ_toInt hb]
theorem xJ_eq {a b : Int} (ha : xR a) (hb : xR b) : xJ a = xJ b ↔ a = b := by rw [← Int32.toInt_inj, xJ_toInt ha, xJ_toInt hb]
theorem xJ_0 : xJ 0 = 0 := rfl
theorem xJ_nat (n : Nat) : xJ (n : Int) = nI n := Int32.ofInt_eq_ofNat
theorem xJ_cl {a : Int} (h : xR a) : (xJ a).toNatClampNeg = a.toNat := congrArg Int.toNat (xJ_toInt h)
theorem xJ_in {a : Int} {n : Nat} (h : xR a) (h0 : 0 ≤ a) (h1 : a < (n : Int)) : vp_in (xJ a) n := vp_in_iff.mpr (by rw [xJ_toInt h]; omega)
theorem xJ_nin {a : Int} {n : Nat} (h : xR a) (h0 : 0 ≤ a) (h1 : a < (n : Int)) : ¬ (xJ a < 0 ∨ n ≤ (xJ a).toNatClampNeg) := xJ_in h h0 h1
theorem xJ_div {a b : Int} (ha : xR a) (hb : xR b) (h0 : 0 ≤ a) (h1 : 0 < b) : xJ a / xJ b = xJ (a / b) := by
  obtain ⟨x, rfl⟩ := Int.eq_ofNat_of_zero_le h0
  obtain ⟨y, rfl⟩ := Int.eq_ofNat_of_zero_le (Int.le_of_lt h1)
  rw [xJ_nat, xJ_nat, pk_div (by omega) (by omega) (by omega), ← xJ_nat]
  rfl
theorem xJ_rem {a b : Int} (ha : xR a) (hb : xR b) (h0 : 0 ≤ a) (h1 : 0 < b) : xJ a - xJ a / xJ b * xJ b = xJ (a % b) := by
  obtain ⟨x, rfl⟩ := Int.eq_ofNat_of_zero_le h0
  obtain ⟨y, rfl⟩ := Int.eq_ofNat_of_zero_le (Int.le_of_lt h1)
  rw [xJ_nat, xJ_nat, pk_rem (by omega) (by omega) (by omega), ← xJ_nat]
  rfl
theorem xJ_ne0 {b : Int} (hb : xR b) (h : b ≠ 0) : ¬ xJ b = 0 := fun q => h ((xJ_eq hb (by omega)).mp (q.trans xJ_0.symm))
/-! ===== rows over them ===== -/
section X1
variable {p : Program} {l : Launch} {e : Env} {R : Room} {s : State} {m : MethodId} {args : Array Value} {below : List Frame} {meth : Method} {c : Code} {H : Heap} {locs : List Loc} {cells slots : Nat} {Q : State → Prop}
variable {cc : ByteArray} {pc : Nat} {ls : Array Slot} {rest : List Value}
theorem x_iconst (hx : p.tables.exec = Jvm.exec) (hb : c.code = cc) {n : Int} (hdg : decode cc pc = .ok (.iconst n, 1)) (k : W p l e R s m args below meth c H locs cells slots Q (F0 m (pc + 1) ls (.int (xJ n) :: rest))) : W p l e R s m args below meth c H locs cells slots Q (F0 m pc ls rest) := lv_iconst hx hb hdg rfl k
theorem x_bipush (hx : p.tables.exec = Jvm.exec) (hb : c.code = cc) {n : Int} (hdg : decode cc pc = .ok (.bipush n, 2)) (hv : (Int8.ofInt n).toInt32 = xJ n) (k : W p l e R s m args below meth c H locs cells slots Q (F0 m (pc + 2) ls (.int (xJ n) :: rest))) : W p l e R s m args below meth c H locs cells slots Q (F0 m pc ls rest) := lv_bipush hx hb hdg hv k
theorem x_sipush (hx : p.tables.exec = Jvm.exec) (hb : c.code = cc) {n : Int} (hdg : decode cc pc = .ok (.sipush n, 3)) (hv : (Int16.ofInt n).toInt32 = xJ n) (k : W p l e R s m args below meth c H locs cells slots Q (F0 m (pc + 3) ls (.int (xJ n) :: rest))) : W p l e R s m args below meth c H locs cells slots Q (F0 m pc ls rest) := lv_sipush hx hb hdg hv k
theorem x_iadd (hx : p.tables.exec = Jvm.exec) (hb : c.code = cc) {a b : Int} (hdg : decode cc pc = .ok (.iadd, 1)) (k : W p l e R s m args below meth c H locs cells slots Q (F0 m (pc + 1) ls (.int (xJ (a + b)) :: rest))) : W p l e R s m args below meth c H locs cells slots Q (F0 m pc ls (.int (xJ b) :: .int (xJ a) :: rest)) := lv_iadd hx hb hdg (by rw [xJ_add]; exact k)
theorem x_isub (hx : p.tables.exec = Jvm.exec) (hb : c.code = cc) {a b : Int} (hdg : decode cc pc = .ok (.isub, 1)) (k : W p l e R s m args below meth c H locs cells slots Q (F0 m (pc + 1) ls (.int (xJ (a - b)) :: rest))) : W p l e R s m args below meth c H locs cells slots Q (F0 m pc ls (.int (xJ b) :: .int (xJ a) :: rest)) := lv_isub hx hb hdg (by rw [xJ_sub]; exact k)
theorem x_imul (hx : p.tables.exec = Jvm.exec) (hb : c.code = cc) {a b : Int} (hdg : decode cc pc = .ok (.imul, 1)) (k : W p l e R s m args below meth c H locs cells slots Q (F0 m (pc + 1) ls (.int (xJ (a * b)) :: rest))) : W p l e R s m args below meth c H locs cells slots Q (F0 m pc ls (.int (xJ b) :: .int (xJ a) :: rest)) := lv_imul hx hb hdg (by rw [xJ_mul]; exact k)
theorem x_idiv (hx : p.tables.exec = Jvm.exec) (hb : c.code = cc) {a b : Int} (ha : xR a) (hb2 : xR b) (h0 : 0 ≤ a) (h1 : 0 < b) (hdg : decode cc pc = .ok (.idiv, 1)) (k : W p l e R s m args below meth c H locs cells slots Q (F0 m (pc + 1) ls (.int (xJ (a / b)) :: rest))) : W p l e R s m args below meth c H locs cells slots Q (F0 m pc ls (.int (xJ b) :: .int (xJ a) :: rest)) := lv_idiv hx hb hdg (xJ_ne0 hb2 (by omega)) (by rw [xJ_div ha hb2 h0 h1]; exact k)
theorem x_irem (hx : p.tables.exec = Jvm.exec) (hb : c.code = cc) {a b : Int} (ha : xR a) (hb2 : xR b) (h0 : 0 ≤ a) (h1 : 0 < b) (hdg : decode cc pc = .ok (.irem, 1)) (k : W p l e R s m args below meth c H locs cells slots Q (F0 m (pc + 1) ls (.int (xJ (a % b)) :: rest))) : W p l e R s m args below meth c H locs cells slots Q (F0 m pc ls (.int (xJ b) :: .int (xJ a) :: rest)) := lv_irem hx hb hdg (xJ_ne0 hb2 (by omega)) (by rw [xJ_rem ha hb2 h0 h1]; exact k)
theorem x_idivQ (hx : p.tables.exec = Jvm.exec) (hb : c.code = cc) {a b : Int} (hb2 : xR b) (h1 : b ≠ 0) (hdg : decode cc pc = .ok (.idiv, 1)) (k : ∀ v : Int, xR v → W p l e R s m args below meth c H locs cells slots Q (F0 m (pc + 1) ls (.int (xJ v) :: rest))) : W p l e R s m args below meth c H locs cells slots Q (F0 m pc ls (.int (xJ b) :: .int (xJ a) :: rest)) := lv_idiv hx hb hdg (xJ_ne0 hb2 h1) (by
  obtain ⟨v, hv, hr⟩ := xJ_ex (xJ a / xJ b)
  rw [hv]; exact k v hr)
theorem x_iremQ (hx : p.tables.exec = Jvm.exec) (hb : c.code = cc) {a b : Int} (hb2 : xR b) (h1 : b ≠ 0) (hdg : decode cc pc = .ok (.irem, 1)) (k : ∀ v : Int, xR v → W p l e R s m args below meth c H locs cells slots Q (F0 m (pc + 1) ls (.int (xJ v) :: rest))) : W p l e R s m args below meth c H locs cells slots Q (F0 m pc ls (.int (xJ b) :: .int (xJ a) :: rest)) := lv_irem hx hb hdg (xJ_ne0 hb2 h1) (by
  obtain ⟨v, hv, hr⟩ := xJ_ex (xJ a - xJ a / xJ b * xJ b)
  rw [hv]; exact k v hr)
/-- the top's number gets a name, in its range -/
theorem x_top {a : Int} (k : ∀ v : Int, xJ v = xJ a → xR v → W p l e R s m args below meth c H locs cells slots Q (F0 m pc ls (.int (xJ v) :: rest))) : W p l e R s m args below meth c H locs cells slots Q (F0 m pc ls (.int (xJ a) :: rest)) := by
  obtain ⟨v, hv, hr⟩ := xJ_ex (xJ a)
  rw [hv]; exact k v hv.symm hr
theorem x_iload_n (hx : p.tables.exec = Jvm.exec) (hb : c.code = cc) {k0 : Fin 4} {i nL : Nat} {x : Int32} {lv : List (Nat × Value)} (h : lv_has ls nL lv) (q : Nat) (hq : lv[q]? = some (i, .int x)) (hdg : decode cc pc = .ok (.iload_n k0, 1)) (hi : (k0 : Nat) = i) (k : W p l e R s m args below meth c H locs cells slots Q (F0 m (pc + 1) ls (.int x :: rest))) : W p l e R s m args below meth c H locs cells slots Q (F0 m pc ls rest) := lv_iload_n hx hb hdg hi (lv_at h q hq) k
theorem x_iload (hx : p.tables.exec = Jvm.exec) (hb : c.code = cc) {i nL : Nat} {x : Int32} {lv : List (Nat × Value)} (h : lv_has ls nL lv) (q : Nat) (hq : lv[q]? = some (i, .int x)) (hdg : decode cc pc = .ok (.iload i, 2)) (k : W p l e R s m args below meth c H locs cells slots Q (F0 m (pc + 2) ls (.int x :: rest))) : W p l e R s m args below meth c H locs cells slots Q (F0 m pc ls rest) := lv_iload hx hb hdg (lv_at h q hq) k
theorem x_aload_n (hx : p.tables.exec = Jvm.exec) (hb : c.code = cc) {k0 : Fin 4} {i nL a : Nat} {lv : List (Nat × Value)} (h : lv_has ls nL lv) (q : Nat) (hq : lv[q]? = some (i, .ref a)) (hdg : decode cc pc = .ok (.aload_n k0, 1)) (hi : (k0 : Nat) = i) (k : W p l e R s m args below meth c H locs cells slots Q (F0 m (pc + 1) ls (.ref a :: rest))) : W p l e R s m args below meth c H locs cells slots Q (F0 m pc ls rest) := lv_aload_n hx hb hdg hi (lv_at h q hq) k
theorem x_aload (hx : p.tables.exec = Jvm.exec) (hb : c.code = cc) {i nL a : Nat} {lv : List (Nat × Value)} (h : lv_has ls nL lv) (q : Nat) (hq : lv[q]? = some (i, .ref a)) (hdg : decode cc pc = .ok (.aload i, 2)) (k : W p l e R s m args below meth c H locs cells slots Q (F0 m (pc + 2) ls (.ref a :: rest))) : W p l e R s m args below meth c H locs cells slots Q (F0 m pc ls rest) := lv_aload hx hb hdg (lv_at h q hq) k
theorem x_iinc (hx : p.tables.exec = Jvm.exec) (hb : c.code = cc) {i nL : Nat} {n : Int} {a : Int} {lv lv' : List (Nat × Value)} (h : lv_has ls nL lv) (q : Nat) (hq : lv[q]? = some (i, .int (xJ a))) (hdg : decode cc pc = .ok (.iinc i n, 3)) (hn : i < nL) (hl : (i, Value.int (xJ (a + n))) :: lv.filter (fun q => !(q.1 == i) && !(q.1 + 1 == i && q.2.category == 2)) = lv')
    (kk : ∀ ls' : Array Slot, lv_has ls' nL lv' → W p l e R s m args below meth c H locs cells slots Q (F0 m (pc + 3) ls' rest)) : W p l e R s m args below meth c H locs cells slots Q (F0 m pc ls rest) := lv_iinc hx hb hdg h hq (xJ_add a n) hn hl kk
theorem x_icmp_eq (hx : p.tables.exec = Jvm.exec) (hb : c.code = cc) {a b off : Int} {tgt : Nat} (ha : xR a) (hb2 : xR b) (hdg : decode cc pc = .ok (.if_icmp .eq off, 3)) (ht : (pc : Int) + off = (tgt : Int)) (kt : a = b → W p l e R s m args below meth c H locs cells slots Q (F0 m tgt ls rest)) (kf : a ≠ b → W p l e R s m args below meth c H locs cells slots Q (F0 m (pc + 3) ls rest)) : W p l e R s m args below meth c H locs cells slots Q (F0 m pc ls (.int (xJ b) :: .int (xJ a) :: rest)) := lv_icmp_eq hx hb hdg ht (fun h => kt ((xJ_eq ha hb2).mp h)) (fun h => kf (fun q => h ((xJ_eq ha hb2).mpr q)))
theorem x_icmp_ne (hx : p.tables.exec = Jvm.exec) (hb : c.code = cc) {a b off : Int} {tgt : Nat} (ha : xR a) (hb2 : xR b) (hdg : decode cc pc = .ok (.if_icmp .ne off, 3)) (ht : (pc : Int) + off = (tgt : Int)) (kt : a ≠ b → W p l e R s m args below meth c H locs cells slots Q (F0 m tgt ls rest)) (kf : a = b → W p l e R s m args below meth c H locs cells slots Q (F0 m (pc + 3) ls rest)) : W p l e R s m args below meth c H locs cells slots Q (F0 m pc ls (.int (xJ b) :: .int (xJ a) :: rest)) := lv_icmp_ne hx hb hdg ht (fun h => kt (fun q => h ((xJ_eq ha hb2).mpr q))) (fun h => kf ((xJ_eq ha hb2).mp h))
theorem x_icmp_lt (hx : p.tables.exec = Jvm.exec) (hb : c.code = cc) {a b off : Int} {tgt : Nat} (ha : xR a) (hb2 : xR b) (hdg : decode cc pc = .ok (.if_icmp .lt off, 3)) (ht : (pc : Int) + off = (tgt : Int)) (kt : a < b → W p l e R s m args below meth c H locs cells slots Q (F0 m tgt ls rest)) (kf : b ≤ a → W p l e R s m args below meth c H locs cells slots Q (F0 m (pc + 3) ls rest)) : W p l e R s m args below meth c H locs cells slots Q (F0 m pc ls (.int (xJ b) :: .int (xJ a) :: rest)) := lv_icmp_lt hx hb hdg ht (fun h => kt ((xJ_lt ha hb2).mp h)) (fun h => kf (Int.not_lt.mp fun q => h ((xJ_lt ha hb2).mpr q)))
theorem x_icmp_ge (hx : p.tables.exec = Jvm.exec) (hb : c.code = cc) {a b off : Int} {tgt : Nat} (ha : xR a) (hb2 : xR b) (hdg : decode cc pc = .ok (.if_icmp .ge off, 3)) (ht : (pc : Int) + off = (tgt : Int)) (kt : b ≤ a → W p l e R s m args below meth c H locs cells slots Q (F0 m tgt ls rest)) (kf : a < b → W p l e R s m args below meth c H locs cells slots Q (F0 m (pc + 3) ls rest)) : W p l e R s m args below meth c H locs cells slots Q (F0 m pc ls (.int (xJ b) :: .int (xJ a) :: rest)) := lv_icmp_ge hx hb hdg ht (fun h => kt ((xJ_le hb2 ha).mp h)) (fun h => kf (Int.not_le.mp fun q => h ((xJ_le hb2 ha).mpr q)))
theorem x_icmp_gt (hx : p.tables.exec = Jvm.exec) (hb : c.code = cc) {a b off : Int} {tgt : Nat} (ha : xR a) (hb2 : xR b) (hdg : decode cc pc = .ok (.if_icmp .gt off, 3)) (ht : (pc : Int) + off = (tgt : Int)) (kt : b < a → W p l e R s m args below meth c H locs cells slots Q (F0 m tgt ls rest)) (kf : a ≤ b → W p l e R s m args below meth c H locs cells slots Q (F0 m (pc + 3) ls rest)) : W p l e R s m args below meth c H locs cells slots Q (F0 m pc ls (.int (xJ b) :: .int (xJ a) :: rest)) := lv_icmp_gt hx hb hdg ht (fun h => kt ((xJ_lt hb2 ha).mp h)) (fun h => kf (Int.not_lt.mp fun q => h ((xJ_lt hb2 ha).mpr q)))
theorem x_icmp_le (hx : p.tables.exec = Jvm.exec) (hb : c.code = cc) {a b off : Int} {tgt : Nat} (ha : xR a) (hb2 : xR b) (hdg : decode cc pc = .ok (.if_icmp .le off, 3)) (ht : (pc : Int) + off = (tgt : Int)) (kt : a ≤ b → W p l e R s m args below meth c H locs cells slots Q (F0 m tgt ls rest)) (kf : b < a → W p l e R s m args below meth c H locs cells slots Q (F0 m (pc + 3) ls rest)) : W p l e R s m args below meth c H locs cells slots Q (F0 m pc ls (.int (xJ b) :: .int (xJ a) :: rest)) := lv_icmp_le hx hb hdg ht (fun h => kt ((xJ_le ha hb2).mp h)) (fun h => kf (Int.not_le.mp fun q => h ((xJ_le ha hb2).mpr q)))
theorem x_if_eq (hx : p.tables.exec = Jvm.exec) (hb : c.code = cc) {a off : Int} {tgt : Nat} (ha : xR a) (hdg : decode cc pc = .ok (.ifCond .eq off, 3)) (ht : (pc : Int) + off = (tgt : Int)) (kt : a = 0 → W p l e R s m args below meth c H locs cells slots Q (F0 m tgt ls rest)) (kf : a ≠ 0 → W p l e R s m args below meth c H locs cells slots Q (F0 m (pc + 3) ls rest)) : W p l e R s m args below meth c H locs cells slots Q (F0 m pc ls (.int (xJ a) :: rest)) := lv_if_eq hx hb hdg ht (fun h => kt ((xJ_eq ha (by omega)).mp h)) (fun h => kf (fun q => h ((xJ_eq ha (by omega)).mpr q)))
theorem x_if_ne (hx : p.tables.exec = Jvm.exec) (hb : c.code = cc) {a off : Int} {tgt : Nat} (ha : xR a) (hdg : decode cc pc = .ok (.ifCond .ne off, 3)) (ht : (pc : Int) + off = (tgt : Int)) (kt : a ≠ 0 → W p l e R s m args below meth c H locs cells slots Q (F0 m tgt ls rest)) (kf : a = 0 → W p l e R s m args below meth c H locs cells slots Q (F0 m (pc + 3) ls rest)) : W p l e R s m args below meth c H locs cells slots Q (F0 m pc ls (.int (xJ a) :: rest)) := lv_if_ne hx hb hdg ht (fun h => kt (fun q => h ((xJ_eq ha (by omega)).mpr q))) (fun h => kf ((xJ_eq ha (by omega)).mp h))
theorem x_if_lt (hx : p.tables.exec = Jvm.exec) (hb : c.code = cc) {a off : Int} {tgt : Nat} (ha : xR a) (hdg : decode cc pc = .ok (.ifCond .lt off, 3)) (ht : (pc : Int) + off = (tgt : Int)) (kt : a < 0 → W p l e R s m args below meth c H locs cells slots Q (F0 m tgt ls rest)) (kf : 0 ≤ a → W p l e R s m args below meth c H locs cells slots Q (F0 m (pc + 3) ls rest)) : W p l e R s m args below meth c H locs cells slots Q (F0 m pc ls (.int (xJ a) :: rest)) := lv_if_lt hx hb hdg ht (fun h => kt ((xJ_lt ha (by omega)).mp h)) (fun h => kf (Int.not_lt.mp fun q => h ((xJ_lt ha (by omega)).mpr q)))
theorem x_if_ge (hx : p.tables.exec = Jvm.exec) (hb : c.code = cc) {a off : Int} {tgt : Nat} (ha : xR a) (hdg : decode cc pc = .ok (.ifCond .ge off, 3)) (ht : (pc : Int) + off = (tgt : Int)) (kt : 0 ≤ a → W p l e R s m args below meth c H locs cells slots Q (F0 m tgt ls rest)) (kf : a < 0 → W p l e R s m args below meth c H locs cells slots Q (F0 m (pc + 3) ls rest)) : W p l e R s m args below meth c H locs cells slots Q (F0 m pc ls (.int (xJ a) :: rest)) := lv_if_ge hx hb hdg ht (fun h => kt ((xJ_le (by omega) ha).mp h)) (fun h => kf (Int.not_le.mp fun q => h ((xJ_le (by omega) ha).mpr q)))
theorem x_if_gt (hx : p.tables.exec = Jvm.exec) (hb : c.code = cc) {a off : Int} {tgt : Nat} (ha : xR a) (hdg : decode cc pc = .ok (.ifCond .gt off, 3)) (ht : (pc : Int) + off = (tgt : Int)) (kt : 0 < a → W p l e R s m args below meth c H locs cells slots Q (F0 m tgt ls rest)) (kf : a ≤ 0 → W p l e R s m args below meth c H locs cells slots Q (F0 m (pc + 3) ls rest)) : W p l e R s m args below meth c H locs cells slots Q (F0 m pc ls (.int (xJ a) :: rest)) := lv_if_gt hx hb hdg ht (fun h => kt ((xJ_lt (by omega) ha).mp h)) (fun h => kf (Int.not_lt.mp fun q => h ((xJ_lt (by omega) ha).mpr q)))
theorem x_if_le (hx : p.tables.exec = Jvm.exec) (hb : c.code = cc) {a off : Int} {tgt : Nat} (ha : xR a) (hdg : decode cc pc = .ok (.ifCond .le off, 3)) (ht : (pc : Int) + off = (tgt : Int)) (kt : a ≤ 0 → W p l e R s m args below meth c H locs cells slots Q (F0 m tgt ls rest)) (kf : 0 < a → W p l e R s m args below meth c H locs cells slots Q (F0 m (pc + 3) ls rest)) : W p l e R s m args below meth c H locs cells slots Q (F0 m pc ls (.int (xJ a) :: rest)) := lv_if_le hx hb hdg ht (fun h => kt ((xJ_le ha (by omega)).mp h)) (fun h => kf (Int.not_le.mp fun q => h ((xJ_le ha (by omega)).mpr q)))
end X1
end
section
/-! ===== the table: which words hold, for every contract the same ===== -/
def xNOK : Cond → Bool
  | .fieldLinkNest _ _ _ _ _ _ => true
  | .methodLinkNest _ _ _ _ => true
  | _ => false
def xTB : List Cond := lw_tbl.filter goodWord
def xNL : List Cond := lw_tbl.filter xNOK
theorem xq {w : Cond} (i : Nat) (h : lw_tbl[i]? = some w) (hg : goodWord w = true) : w ∈ xTB := List.mem_filter.mpr ⟨List.mem_of_getElem? h, hg⟩
theorem xn {w : Cond} (i : Nat) (h : lw_tbl[i]? = some w) (hg : xNOK w = true) : w ∈ xNL := List.mem_filter.mpr ⟨List.mem_of_getElem? h, hg⟩
theorem xTB_good {w : Cond} (h : w ∈ xTB) : goodWord w = true := (List.mem_filter.mp h).2
def xws (y : MethodName) (cc : ByteArray) (n : Nat) (ret : Option FieldType) : List Cond := .code y cc n ret :: xTB
theorem xws_good {Ts : List Cond} {y : MethodName} {cc : ByteArray} {n : Nat} {ret : Option FieldType} (hTs : ∀ w ∈ xTB, w ∈ Ts) (h : Cond.code y cc n ret ∈ xTB) : GoodIn Ts (xws y cc n ret) := fun w hw => by
  rcases List.mem_cons.mp hw with rfl | hw
  · exact ⟨hTs _ h, good_of_word (xTB_good h)⟩
  · exact ⟨hTs _ hw, good_of_word (xTB_good hw)⟩
theorem xNw_move {w : Cond} (hw : xNOK w = true) {s U : State} (hW : s.WarmedH U.vm) (h : va_Nw w s) : va_Nw w U := by
  cases w <;> first | exact va_Nw.warmF hW h | exact va_Nw.warmM hW h | cases hw
theorem xNw_same {w : Cond} (hw : xNOK w = true) {s U : State} (hv : s.vm = U.vm) (h : va_Nw w s) : va_Nw w U := by
  cases w <;> first | exact va_Nw.same rfl hv h | cases hw
/-! ===== the state: numbers of cells by their places; the cells lie one behind the other from h0 on ===== -/
abbrev xS : Type := Nat → Int → Int
def xU (σ : xS) (k : Nat) (j v : Int) : xS := fun k2 j2 => if k2 = k ∧ j2 = j then v else σ k2 j2
theorem xU_s (σ : xS) (k : Nat) (j v : Int) : xU σ k j v k j = v := if_pos ⟨rfl, rfl⟩
theorem xU_k (σ : xS) {k k2 : Nat} (j v : Int) (h : k2 ≠ k) : xU σ k j v k2 = σ k2 := funext fun j2 => if_neg (fun q => h q.1)
theorem xU_j (σ : xS) {k : Nat} {j j2 : Int} (v : Int) (h : j2 ≠ j) : xU σ k j v k j2 = σ k j2 := if_neg (fun q => h q.2)
theorem xU_i (σ : xS) (k : Nat) (j v j2 : Int) : xU σ k j v k j2 = if j2 = j then v else σ k j2 := by by_cases h : j2 = j <;> simp [xU, h]
abbrev xG : Type := ClassId × ClassId × ClassId × ClassId × ClassId
abbrev xtys (g : xG) : List (ClassId × FieldType) := [(g.1, .int), (g.2.1, .boolean), (g.2.2.1, .byte), (g.2.2.2.1, .array .int), (g.2.2.2.2, .object "ShadowCourt$Day")]
def xtab : List (Nat × Nat) := [(5, 10), (5, 8), (0, 260), (5, 6), (0, 100), (0, 100), (3, 100), (0, 100), (0, 100), (0, 100), (0, 100), (0, 100), (0, 100), (0, 100), (0, 100), (0, 100), (0, 100), (0, 100), (0, 100), (0, 100), (0, 100), (0, 100), (0, 100), (0, 100), (0, 100), (0, 100), (0, 100), (0, 100), (0, 100), (0, 100), (0, 100), (0, 100), (0, 100), (0, 100), (0, 100), (0, 100), (0, 100), (0, 100), (0, 100), (0, 100), (0, 100), (0, 100), (0, 100), (0, 100), (0, 100), (0, 100), (0, 100), (0, 100), (0, 100), (0, 100), (0, 100), (0, 100), (0, 100), (0, 100), (0, 100), (0, 100), (0, 100), (0, 100), (0, 100), (0, 100), (0, 100), (0, 100), (0, 100), (0, 100), (0, 100), (0, 100), (0, 100), (0, 100), (0, 100), (0, 100), (0, 100), (0, 100), (0, 100), (0, 100), (0, 100), (0, 100), (0, 100), (0, 100), (0, 100), (0, 100), (0, 100), (0, 100), (0, 100), (0, 100), (0, 100), (0, 100), (0, 100), (0, 100), (0, 100), (0, 100), (0, 100), (0, 100), (0, 100), (0, 100), (0, 100), (0, 100), (0, 100), (0, 100), (0, 100), (0, 100), (0, 100), (0, 100), (0, 100), (0, 100), (0, 100), (0, 100), (0, 100), (1, 100), (0, 100), (5, 4), (0, 300), (0, 300), (0, 16), (0, 16), (0, 16), (0, 7), (0, 64), (5, 5), (5, 4), (0, 300), (0, 300), (0, 16), (0, 16), (0, 16), (0, 7), (0, 64), (5, 9), (0, 60), (5, 0), (0, 4), (5, 7), (0, 100), (0, 100), (1, 100), (0, 10), (0, 10), (5, 2), (0, 2), (3, 2), (0, 0), (0, 0), (0, 2), (0, 10), (0, 10), (0, 10), (1, 10), (5, 2), (0, 2), (3, 2), (0, 0), (0, 0), (0, 2), (0, 10), (0, 10), (0, 10), (1, 10), (5, 3), (4, 6), (5, 2), (0, 2), (3, 2), (0, 0), (0, 0), (0, 2), (0, 10), (0, 10), (0, 10), (1, 10), (5, 2), (0, 2), (3, 2), (0, 0), (0, 0), (0, 2), (0, 10), (0, 10), (0, 10), (1, 10), (5, 2), (0, 2), (3, 2), (0, 0), (0, 0), (0, 2), (0, 10), (0, 10), (0, 10), (1, 10), (5, 2), (0, 2), (3, 2), (0, 0), (0, 0), (0, 2), (0, 10), (0, 10), (0, 10), (1, 10), (5, 2), (0, 2), (3, 2), (0, 0), (0, 0), (0, 2), (0, 10), (0, 10), (0, 10), (1, 10), (5, 2), (0, 2), (3, 2), (0, 0), (0, 0), (0, 2), (0, 10), (0, 10), (0, 10), (1, 10), (3, 5), (0, 1), (0, 1), (0, 1), (0, 1), (0, 1), (0, 5), (0, 5), (0, 100), (3, 31), (0, 100), (0, 100), (0, 100), (0, 100), (0, 100), (0, 100), (0, 100), (0, 100), (0, 100), (0, 100), (0, 100), (0, 100), (0, 100), (0, 100), (0, 100), (0, 100), (0, 100), (0, 100), (0, 100), (0, 100), (0, 100), (0, 100), (0, 100), (0, 100), (0, 100), (0, 100), (0, 100), (0, 100), (0, 100), (0, 100), (0, 100), (0, 100), (0, 100), (5, 1), (0, 10), (0, 10), (0, 100), (0, 100), (0, 10), (0, 8), (5, 11), (0, 39), (0, 39), (0, 39), (0, 100), (0, 4), (0, 2), (2, 120), (2, 260), (0, 260), (0, 260), (0, 16), (0, 16), (0, 16), (0, 16), (0, 260), (0, 16), (0, 16), (0, 16), (0, 16), (0, 100), (2, 60), (0, 2), (0, 2), (0, 2), (0, 260), (0, 7), (0, 100), (0, 100), (0, 10), (0, 10), (1, 100), (1, 1024), (0, 100), (0, 3100), (0, 3100), (0, 10000), (0, 100), (0, 8), (0, 8), (0, 2), (2, 120)]
def xrow (σ : xS) (k j : Nat) : Nat := if k = 6 then 7 + j else if k = 218 then 219 + j else if k = 227 then 228 + j else if k = 157 then 158 + 10 * j else (σ k j).toNat
def xobj (h0 : Nat) (σ : xS) (k c : Nat) : List Value :=
  if c = 0 then [.ref (h0 + 3), .ref (h0 + 109), .ref (h0 + (k + 1)), .ref (h0 + 130), .ref (h0 + (k + 6)), .ref (h0 + (k + 7))]
  else if c = 1 then [.ref (h0 + 128), .ref (h0 + (k + 1)), .ref (h0 + (k + 2)), .ref (h0 + (k + 3)), .ref (h0 + (k + 4)), .ref (h0 + (k + 5))]
  else if c = 2 then [.ref (h0 + (k + 1)), .ref (h0 + (k + 2)), .ref (h0 + (k + 5)), .ref (h0 + (k + 6)), .ref (h0 + (k + 7)), .ref (h0 + (k + 8)), .ref (h0 + (k + 9)), .int (xJ (σ k 7)), .int (xJ (σ k 8)), .int (xJ (σ k 9)), .int (xJ (σ k 10)), .int (xJ (σ k 11))]
  else if c = 3 then [.ref (h0 + 128), .ref (h0 + 136), .ref (h0 + 157), .ref (h0 + 218), .ref (h0 + 224), .ref (h0 + 225), .int (xJ (σ k 6)), .ref (h0 + 226), .ref (h0 + 227), .ref (h0 + 259), .ref (h0 + 260)]
  else if c = 4 then [.ref (h0 + (k + 1)), .ref (h0 + (k + 2)), .int (xJ (σ k 2)), .ref (h0 + (k + 3)), .ref (h0 + (k + 4)), .ref (h0 + (k + 5)), .int (xJ (σ k 6)), .ref (h0 + (k + 6)), .ref (h0 + (k + 7))]
  else if c = 5 then [.ref (h0 + 1), .ref (h0 + 118)]
  else if c = 6 then [.ref (h0 + (k + 1)), .ref (h0 + (k + 2)), .ref (h0 + (k + 3)), .ref (h0 + (k + 104)), .ref (h0 + (k + 105))]
  else if c = 7 then [.ref (h0 + (k + 1)), .ref (h0 + (k + 2)), .ref (h0 + (k + 3)), .int (xJ (σ k 3))]
  else if c = 8 then [.ref (h0 + (k + 1)), .int (xJ (σ k 1)), .int (xJ (σ k 2)), .int (xJ (σ k 3)), .int (xJ (σ k 4))]
  else if c = 9 then [.ref (h0 + 1), .ref (h0 + (k + 1)), .int (xJ (σ k 2))]
  else if c = 10 then [.ref (h0 + 1), .ref (h0 + 3), .ref (h0 + 109), .ref (h0 + 117), .ref (h0 + 126), .ref (h0 + 128), .ref (h0 + 156), .ref (h0 + 261), .ref (h0 + 136), .ref (h0 + 146), .ref (h0 + 267), .int (xJ (σ k 11))]
  else if c = 11 then [.ref (h0 + 269), .ref (h0 + 270), .ref (h0 + 271), .ref (h0 + 272), .ref (h0 + 273), .ref (h0 + 274), .ref (h0 + 275), .ref (h0 + 276), .int (xJ (σ k 8)), .int (xJ (σ k 9)), .int (xJ (σ k 10)), .int (xJ (σ k 11)), .int (xJ (σ k 12)), .int (xJ (σ k 13)), .int (xJ (σ k 14)), .int (xJ (σ k 15)), .int (xJ (σ k 16)), .int (xJ (σ k 17)), .ref (h0 + 277), .ref (h0 + 278), .ref (h0 + 279), .ref (h0 + 280), .ref (h0 + 281), .ref (h0 + 282), .ref (h0 + 283), .ref (h0 + 284), .ref (h0 + 285), .ref (h0 + 286), .ref (h0 + 287), .ref (h0 + 288), .ref (h0 + 289), .ref (h0 + 290), .ref (h0 + 291), .ref (h0 + 292), .int (xJ (σ k 34)), .int (xJ (σ k 35)), .int (xJ (σ k 36)), .int (xJ (σ k 37)), .ref (h0 + 293), .ref (h0 + 294), .ref (h0 + 295), .int (xJ (σ k 41)), .int (xJ (σ k 42)), .int (xJ (σ k 43)), .int (xJ (σ k 44)), .ref (h0 + 296), .ref (h0 + 297), .ref (h0 + 298), .int (xJ (σ k 48)), .ref (h0 + 299), .ref (h0 + 300), .ref (h0 + 301), .ref (h0 + 302), .ref (h0 + 303), .ref (h0 + 304), .ref (h0 + 305), .ref (h0 + 306), .ref (h0 + 307), .int (xJ (σ k 58)), .ref (h0 + 308), .ref (h0 + 309)]
  else []
def xcel (h0 : Nat) (g : xG) (σ : xS) (k : Nat) : va_E := match if k < 310 then xtab.getD k (9, 0) else (0, (σ 999998 k).toNat) with
  | (0, n) => .inl (g.1, n, .inl (fun j => xJ (σ k j)))
  | (1, n) => .inl (g.2.1, n, .inl (fun j => xJ (σ k j)))
  | (2, n) => .inl (g.2.2.1, n, .inl (fun j => xJ (σ k j)))
  | (3, n) => .inl (g.2.2.2.1, n, .inr (.inr (.inr (.inr (fun j => some (h0 + xrow σ k j))))))
  | (4, n) => .inl (g.2.2.2.2, n, .inr (.inr (.inr (.inr (fun j => some (h0 + xrow σ k j))))))
  | (_, c) => .inr (c, xobj h0 σ k c)
theorem xobj_f (h0 : Nat) {σ τ : xS} {k : Nat} (c : Nat) (h : τ k = σ k) : xobj h0 τ k c = xobj h0 σ k c := by unfold xobj; rw [h]
theorem xcel_f (h0 : Nat) (g : xG) {σ τ : xS} {k : Nat} (h : τ k = σ k) (h2 : k < 310 ∨ τ 999998 k = σ 999998 k) : xcel h0 g τ k = xcel h0 g σ k := by
  have e : (if k < 310 then xtab.getD k (9, 0) else (0, (τ 999998 k).toNat)) = (if k < 310 then xtab.getD k (9, 0) else (0, (σ 999998 k).toNat)) := by
    by_cases q : k < 310
    · rw [if_pos q, if_pos q]
    · rcases h2 with h2 | h2
      · exact absurd h2 q
      · rw [if_neg q, if_neg q, h2]
  unfold xcel
  rw [e]
  split <;> simp only [h, xrow, xobj_f h0 _ h]
def xV (σ : xS) (k : Nat) : Prop := k < 310 ∨ (k < 999990 ∧ σ 999997 k = 1)
def xSt (D : va_G) (g : xG) (h0 : Nat) (σ : xS) (H : Heap) : Prop := ∀ k : Nat, xV σ k → va_at D vwCl (h0 + k, xcel h0 g σ k) H
def xRR (σ : xS) : Prop := ∀ (k : Nat) (j : Int), xR (σ k j)
def xA (h0 : Nat) : Nat → Prop := fun q => h0 ≤ q
def xW (D : va_G) (g : xG) (h0 : Nat) (s : State) (H : Heap) (locs : List Loc) (σ : xS) : Prop := xSt D g h0 σ H ∧ xRR σ ∧ va_S (xA h0) s.heap H locs
def xwx : Nat → Int := fun j => [0, 1, 1, 1, 0, -1, -1, -1].getD j 0
def xwy : Nat → Int := fun j => [1, 1, 0, -1, -1, -1, 0, 1].getD j 0
def xlt : Nat → Int := fun j => [116, 104, 106, 102, 119, 98, 115].getD j 0
def xZs (T : Nat × Nat × Nat) (h0 : Nat) (U : State) (H : Heap) : Prop :=
  (va_Z "ShadowCourt" "WAY_X" "[I" (.ref T.1) (xA h0) U H ∧ va_T .int T.1 8 (fun j => .int (xJ (xwx j))) (xA h0) U H) ∧
  (va_Z "ShadowCourt" "WAY_Y" "[I" (.ref T.2.1) (xA h0) U H ∧ va_T .int T.2.1 8 (fun j => .int (xJ (xwy j))) (xA h0) U H) ∧
  (va_Z "ShadowCourt$Law" "LETTERS" "[I" (.ref T.2.2) (xA h0) U H ∧ va_T .int T.2.2 7 (fun j => .int (xJ (xlt j))) (xA h0) U H)
/-- a row of rows of ints holds rows of ints -/
def xGA (g : xG) (U : State) : Prop := ∃ kA : Class, U.vm.classes[g.2.2.2.1]? = some kA ∧ kA.kind = .array g.1 (.array .int)
theorem xGA.moved {g : xG} {u U : State} (hvm : u.vm.Alike U.vm) (h : xGA g u) : xGA g U := by
  obtain ⟨kA, h1, h2⟩ := h
  obtain ⟨k2, hk2, he⟩ := hvm.2.2 _ _ h1
  exact ⟨k2, hk2, by rw [he]; exact h2⟩
def xE (D : va_G) (g : xG) (T : Nat × Nat × Nat) (h0 : Nat) (U : State) : Prop := va_K D vwCl (xtys g) U ∧ ((∀ w ∈ xNL, va_Nw w U) ∧ xGA g U) ∧ xZs T h0 U U.heap
theorem xZs_move {T : Nat × Nat × Nat} {h0 : Nat} {s U : State} {H : Heap} (ha : s.vm.Alike U.vm) (h : xZs T h0 s s.heap) (hH : ∀ a : Nat, a < s.heap.size → ¬ xA h0 a → H[a]? = s.heap[a]?) : xZs T h0 U H :=
  ⟨⟨(h.1.1.moved ha).kept hH, (h.1.2.moved ha).kept hH⟩, ⟨(h.2.1.1.moved ha).kept hH, (h.2.1.2.moved ha).kept hH⟩, ⟨(h.2.2.1.moved ha).kept hH, (h.2.2.2.moved ha).kept hH⟩⟩
theorem xE_move {D : va_G} {g : xG} {T : Nat × Nat × Nat} {h0 : Nat} {s U : State} {H : Heap} {locs : List Loc} (h : xE D g T h0 s) (hS : va_S (xA h0) s.heap H locs) (hW : s.WarmedH U.vm) (hU : U.heap = H) : xE D g T h0 U :=
  ⟨va_K.moved hW.alike h.1, ⟨fun w hw => xNw_move (List.mem_filter.mp hw).2 hW (h.2.1.1 w hw), h.2.1.2.moved hW.alike⟩, xZs_move hW.alike h.2.2 (fun a h1 h2 => by rw [hU]; exact hS.2.1 a h1 h2)⟩
abbrev xP (av : List Value) (D : va_G) (g : xG) (T : Nat × Nat × Nat) (h0 : Nat) (σ : xS) : Array Value → State → Prop := va_Pc av (fun U => xE D g T h0 U ∧ xSt D g h0 σ U.heap)
theorem xP_blind {av : List Value} {D : va_G} {g : xG} {T : Nat × Nat × Nat} {h0 : Nat} {σ : xS} : FrameBlind (xP av D g T h0 σ) := fun a U gf mk q => by
  obtain ⟨q0, ⟨qK, ⟨qN, qG⟩, qZ⟩, qP⟩ := q
  exact ⟨q0, ⟨va_K.moved (u := U) (U := U.calling gf mk a) (Vm.Alike.refl U.vm) qK, ⟨fun w hw => xNw_same (s := U) (U := U.calling gf mk a) (List.mem_filter.mp hw).2 rfl (qN w hw), xGA.moved (u := U) (U := U.calling gf mk a) (Vm.Alike.refl U.vm) qG⟩, xZs_move (s := U) (U := U.calling gf mk a) (Vm.Alike.refl U.vm) qZ (fun _ _ _ => rfl)⟩, qP⟩
def xQi (D : va_G) (g : xG) (h0 : Nat) (post : Int → xS → Prop) : Array Value → State → Outcome → State → Prop := fun _ st o t => (∃ (r : Int) (σ : xS), o = .returned (some (.int (xJ r))) ∧ xR r ∧ post r σ ∧ xRR σ ∧ xSt D g h0 σ t.heap) ∧ va_F (xA h0) st t
def xQv (D : va_G) (g : xG) (h0 : Nat) (post : xS → Prop) : Array Value → State → Outcome → State → Prop := fun _ st o t => (∃ (σ : xS), o = .returned none ∧ post σ ∧ xRR σ ∧ xSt D g h0 σ t.heap) ∧ va_F (xA h0) st t
def xQr (D : va_G) (g : xG) (h0 : Nat) (post : Nat → xS → Prop) : Array Value → State → Outcome → State → Prop := fun _ st o t => (∃ (k : Nat) (σ : xS), o = .returned (some (.ref (h0 + k))) ∧ post k σ ∧ xRR σ ∧ xSt D g h0 σ t.heap) ∧ va_F (xA h0) st t
theorem xE_N {D : va_G} {g : xG} {T : Nat × Nat × Nat} {h0 : Nat} {s : State} {args : Array Value} (h : xE D g T h0 s) {w : Cond} (hw : w ∈ xNL) (hk : w.onTables = true) : w.before args s = true := va_Nw.use hk (h.2.1.1 w hw)
/-! ===== a method, from its entry ===== -/
theorem x_met {l : Launch} {y : MethodName} {cc : ByteArray} {maxL : Nat} {ret : Option FieldType} {rm : Room} {av : List Value} {D : va_G} {g : xG} {T : Nat × Nat × Nat} {h0 : Nat} {σ : xS} {Qc : Array Value → State → Outcome → State → Prop} {mc ms : Nat} (hσ : xRR σ) (hy : plainName y.cls = true) (hn : (lg_sl av).length ≤ maxL)
    (body : ∀ (p : Program) (e : Env) (s : State) (m : MethodId) (args : Array Value) (below : List Frame) (meth : Method) (c : Code), p.tables.exec = Jvm.exec → c.code = cc → meth.sig.returnType = ret → c.maxLocals = maxL → s.vm.findClass y.cls = some m.cls → (∀ w ∈ xTB, w.before args s = true) → meth.locks = false → meth.name = y.name → xE D g T h0 s → xW D g h0 s s.heap [] σ → ∀ ls : Array Slot, lv_has ls maxL (lv_args 0 av) →
      W p l e rm s m args below meth c s.heap [] 0 0 (MQ below Qc args s mc ms (xA h0)) (F0 m 0 ls [])) : Met l y (xws y cc maxL ret) rm (xP av D g T h0 σ) Qc mc ms (xA h0) := by
  refine Met.ofW (cc := cc) (maxL := maxL) (ret := ret) (ws' := xTB) hy rfl ?_
  intro p e s m args below meth c s₁ B hml hv
  obtain ⟨rfl, hE, hH⟩ := hv
  have hts := atoms_spec (ws := xws y cc maxL ret) B.pre
  have hl := lv_entry av (n := maxL) hn
  rw [lg_entry_eq]
  exact body p e s m _ below meth c B.exec B.bytes B.returns hml (findClass_of_methodNamed B.named) (fun w hw => hts w (List.mem_cons_of_mem _ hw)) B.notSynchronized (name_of_methodNamed B.named B.method).1 hE ⟨hH, hσ, va_S.rf⟩ _ hl
/-! ===== rows on the state ===== -/
section X2
variable {p : Program} {l : Launch} {e : Env} {R : Room} {s : State} {m : MethodId} {args : Array Value} {below : List Frame} {meth : Method} {c : Code} {H : Heap} {locs : List Loc} {cells slots : Nat} {Q : State → Prop}
variable {cc : ByteArray} {pc : Nat} {ls : Array Slot} {rest st0 : List Value} {D : va_G} {g : xG} {T : Nat × Nat × Nat} {h0 : Nat} {σ : xS}
/-- ends -/
theorem x_iret (hx : p.tables.exec = Jvm.exec) (hb : c.code = cc) (hr : meth.sig.returnType = some .int) (hlk : meth.locks = false) {post : Int → xS → Prop} {r : Int} (hW : xW D g h0 s H locs σ) (hR : xR r) (hp : post r σ) (hdg : decode cc pc = .ok (.ireturn, 1)) : W p l e R s m args below meth c H locs cells slots (MQ below (xQi D g h0 post) args s cells slots (xA h0)) (F0 m pc ls [.int (xJ r)]) :=
  W.iret hx hb hr (fun t ht _ => ⟨⟨r, σ, rfl, hR, hp, hW.2.1, by rw [ht]; exact hW.1⟩, hW.2.2.F ht⟩) hW.2.2.2.2 hdg hlk
theorem x_zret (hx : p.tables.exec = Jvm.exec) (hb : c.code = cc) (hr : meth.sig.returnType = some .boolean) (hlk : meth.locks = false) {post : Int → xS → Prop} {r : Int} (hW : xW D g h0 s H locs σ) (hR : r = 0 ∨ r = 1) (hp : post r σ) (hdg : decode cc pc = .ok (.ireturn, 1)) : W p l e R s m args below meth c H locs cells slots (MQ below (xQi D g h0 post) args s cells slots (xA h0)) (F0 m pc ls [.int (xJ r)]) :=
  W.zret hx hb hr (by rcases hR with rfl | rfl <;> rfl) (fun t ht _ => ⟨⟨r, σ, rfl, by omega, hp, hW.2.1, by rw [ht]; exact hW.1⟩, hW.2.2.F ht⟩) hW.2.2.2.2 hdg hlk
theorem x_vret (hx : p.tables.exec = Jvm.exec) (hb : c.code = cc) (hr : meth.sig.returnType = none) (hlk : meth.locks = false) {post : xS → Prop} (hW : xW D g h0 s H locs σ) (hp : post σ) (hdg : decode cc pc = .ok (.return_, 1)) : W p l e R s m args below meth c H locs cells slots (MQ below (xQv D g h0 post) args s cells slots (xA h0)) (F0 m pc ls []) :=
  W.vret hx hb hr (fun t ht _ => ⟨⟨σ, rfl, hp, hW.2.1, by rw [ht]; exact hW.1⟩, hW.2.2.F ht⟩) hW.2.2.2.2 hdg hlk
theorem x_aret (hx : p.tables.exec = Jvm.exec) (hb : c.code = cc) {rt : FieldType} (hr : meth.sig.returnType = some rt) (hrt : (∃ n, rt = .object n) ∨ ∃ t, rt = .array t) (hlk : meth.locks = false) {post : Nat → xS → Prop} {k : Nat} (hW : xW D g h0 s H locs σ) (hp : post k σ) (hdg : decode cc pc = .ok (.areturn, 1)) : W p l e R s m args below meth c H locs cells slots (MQ below (xQr D g h0 post) args s cells slots (xA h0)) (F0 m pc ls [.ref (h0 + k)]) :=
  W.aret hx hb hr hrt (Or.inr ⟨_, rfl⟩) (fun t ht _ => ⟨⟨k, σ, rfl, hp, hW.2.1, by rw [ht]; exact hW.1⟩, hW.2.2.F ht⟩) hW.2.2.2.2 hdg hlk
/-- a class of ours -/
def xCls (C : String) (t : u_T) (N ci : Nat) (ty : Nat → FieldType) : Prop := (∀ w ∈ u_ws C t N, w ∈ xTB) ∧ vwCl[ci]? = some (C, t, N) ∧ (∀ k, k < N → parseFieldDescriptor (t k).2.2.1 = some (ty k)) ∧ (∀ a, a < N → ∀ b, b < N → a ≠ b → (t a).2.1 ≠ (t b).2.1)
theorem x_get {own C : String} {t : u_T} {N ci index k j : Nat} {ty : Nat → FieldType} {v : Value} (hx : p.tables.exec = Jvm.exec) (hb : c.code = cc) (hown : s.vm.findClass own = some m.cls) (hT : ∀ w ∈ xTB, w.before args s = true) (hE : xE D g T h0 s) (hW : xW D g h0 s H locs σ) (hc : xCls C t N ci ty) (hk : xV σ k) (hcel : xcel h0 g σ k = .inr (ci, xobj h0 σ k ci)) (hj : j < N) (hv : (xobj h0 σ k ci)[j]? = some v) (hl : Cond.fieldLink own index (t j).1 (t j).2.1 (t j).2.2.1 ∈ xTB) (hdg : decode cc pc = .ok (.getfield index, 3))
    (kk : W p l e R s m args below meth c H locs cells slots Q (F0 m (pc + 3) ls (v :: rest))) : W p l e R s m args below meth c H locs cells slots Q (F0 m pc ls (.ref (h0 + k) :: rest)) :=
  va_get (ws := [(h0 + k, .inr (ci, xobj h0 σ k ci))]) hx hb hT hc.1 hown hE.1 (fun i q hq => by
    match i, hq with
    | 0, hq => cases hq; have h9 := hW.1 k hk; rw [hcel] at h9; exact h9) 0 rfl hc.2.1 j hj (hT _ hl) (fun _ h9 => h9) hv hdg kk
theorem x_getN {own C host : String} {t : u_T} {N ci index k j : Nat} {ty : Nat → FieldType} {v : Value} (hx : p.tables.exec = Jvm.exec) (hb : c.code = cc) (hown : s.vm.findClass own = some m.cls) (hT : ∀ w ∈ xTB, w.before args s = true) (hE : xE D g T h0 s) (hW : xW D g h0 s H locs σ) (hc : xCls C t N ci ty) (hk : xV σ k) (hcel : xcel h0 g σ k = .inr (ci, xobj h0 σ k ci)) (hj : j < N) (hv : (xobj h0 σ k ci)[j]? = some v) (hl : Cond.fieldLinkNest own index (t j).1 (t j).2.1 (t j).2.2.1 host ∈ xNL) (hdg : decode cc pc = .ok (.getfield index, 3))
    (kk : W p l e R s m args below meth c H locs cells slots Q (F0 m (pc + 3) ls (v :: rest))) : W p l e R s m args below meth c H locs cells slots Q (F0 m pc ls (.ref (h0 + k) :: rest)) :=
  va_getN (ws := [(h0 + k, .inr (ci, xobj h0 σ k ci))]) hx hb hT hc.1 hown hE.1 (fun i q hq => by
    match i, hq with
    | 0, hq => cases hq; have h9 := hW.1 k hk; rw [hcel] at h9; exact h9) 0 rfl hc.2.1 j hj (xE_N hE hl rfl) (fun _ h9 => h9) hv hdg kk
/-- what a store leaves: the other cells as they were -/
theorem xW_put {k : Nat} {τ : xS} {H1 : Heap} {i : Nat} (hW : xW D g h0 s H locs σ) (hk : k < 310) (hz : H1.size = H.size) (ho : ∀ q : Nat, q ≠ h0 + k → H1[q]? = H[q]?) (hτ : ∀ k2, k2 ≠ k → τ k2 = σ k2) (hR : xRR τ) (h : va_at D vwCl (h0 + k, xcel h0 g τ k) H1) : xW D g h0 s H1 (locs ++ [⟨h0 + k, i⟩]) τ := by
  refine ⟨fun k2 hk2 => ?_, hR, hW.2.2.put hz ho (Nat.le_add_right _ _)⟩
  have e8 : τ 999998 = σ 999998 := hτ _ (by omega)
  have e7 : τ 999997 = σ 999997 := hτ _ (by omega)
  by_cases e : k2 = k
  · subst e; exact h
  · have h2 := hW.1 k2 (by unfold xV at hk2 ⊢; rw [e7] at hk2; exact hk2)
    rw [xcel_f h0 g (hτ k2 e) (Or.inr (by rw [e8]))]
    exact h2.kept (ho _ (fun q => e (by simpa using q)))
theorem xRR_U {k : Nat} {j v : Int} (h : xRR σ) (hv : xR v) : xRR (xU σ k j v) := fun k2 j2 => by
  unfold xU
  split
  · exact hv
  · exact h k2 j2
theorem x_put {own C : String} {t : u_T} {N ci index k j : Nat} {ji : Int} {ty : Nat → FieldType} {a : Int} (hx : p.tables.exec = Jvm.exec) (hb : c.code = cc) (hown : s.vm.findClass own = some m.cls) (hT : ∀ w ∈ xTB, w.before args s = true) (hE : xE D g T h0 s) (hW : xW D g h0 s H locs σ) (hc : xCls C t N ci ty) (hk : k < 310) (hcel : ∀ σ : xS, xcel h0 g σ k = .inr (ci, xobj h0 σ k ci)) (hj : j < N) (hset : xobj h0 (xU σ k ji a) k ci = (xobj h0 σ k ci).set j (.int (xJ a))) (hlen : j < (xobj h0 σ k ci).length) (hl : Cond.fieldLink own index (t j).1 (t j).2.1 (t j).2.2.1 ∈ xTB) (hfin : (t j).2.2.2 = false) (hn : narrow (ty j) (.int (xJ a)) = .int (xJ a)) (hfit : fits (ty j) (.int (xJ a)) = true) (hR : xR a) (hdg : decode cc pc = .ok (.putfield index, 3))
    (kk : ∀ (H1 : Heap) (locs1 : List Loc) (τ : xS), τ = xU σ k ji a → xW D g h0 s H1 locs1 τ → W p l e R s m args below meth c H1 locs1 cells slots Q (F0 m (pc + 3) ls rest)) : W p l e R s m args below meth c H locs cells slots Q (F0 m pc ls (.int (xJ a) :: .ref (h0 + k) :: rest)) := by
  have hap := va_apart (own := own) hT hc.1 ty hc.2.2.1 hc.2.2.2 hE.1 hc.2.1
  have h9 := hW.1 k (Or.inl hk)
  rw [hcel σ] at h9
  obtain ⟨r, h1, cell, q1, q2, q3, q4⟩ := h9
  have hr : r = (C, t, N) := Option.some.inj (h1.symm.trans hc.2.1)
  subst hr
  obtain ⟨hS, hfc, kC, hkC, hkind⟩ := hE.1.1 ci _ hc.2.1
  obtain ⟨cf, kf, fi, f, hi, hsl⟩ := hS j hj
  have hlay := hT _ (hc.1 _ (u_in_lay hj))
  unfold u_lay at hlay
  rw [if_neg (by rw [hfin]; decide)] at hlay
  have hst := (u_facts hfc hkC (u_lays hT hc.1 hj) hi).1
  have h6 := u_store hfc hkC hkind hlay hi (hc.2.2.1 j hj) hn hfit
  refine W.putK hx hb (f := f) ⟨hown, hT _ hl, ⟨_, _, _, hi⟩, hst⟩ (by rw [q2]; exact h6) q1 q3 (by rw [hsl]; exact k2_hasslot (q4 j hj)) rfl rfl hdg fun H1 e1 e2 e3 => ?_
  rw [hsl] at e1 ⊢
  refine kk H1 _ _ rfl (xW_put hW hk e2 e3 (fun k2 h => xU_k σ ji a h) (xRR_U hW.2.1 hR) ?_)
  rw [hcel, hset]
  exact ⟨_, hc.2.1, t_OB.to (V := updV (vp_V (xobj h0 σ k ci)) j (.int (xJ a))) ⟨_, e1, q2, q3, t_set q4 hap hj _⟩ (fun i _ => vp_updV_set hlen _ i)⟩
theorem x_putN {own C host : String} {t : u_T} {N ci index k j : Nat} {ji : Int} {ty : Nat → FieldType} {a : Int} (hx : p.tables.exec = Jvm.exec) (hb : c.code = cc) (hown : s.vm.findClass own = some m.cls) (hT : ∀ w ∈ xTB, w.before args s = true) (hE : xE D g T h0 s) (hW : xW D g h0 s H locs σ) (hc : xCls C t N ci ty) (hk : k < 310) (hcel : ∀ σ : xS, xcel h0 g σ k = .inr (ci, xobj h0 σ k ci)) (hj : j < N) (hset : xobj h0 (xU σ k ji a) k ci = (xobj h0 σ k ci).set j (.int (xJ a))) (hlen : j < (xobj h0 σ k ci).length) (hl : Cond.fieldLinkNest own index (t j).1 (t j).2.1 (t j).2.2.1 host ∈ xNL) (hfin : (t j).2.2.2 = false) (hn : narrow (ty j) (.int (xJ a)) = .int (xJ a)) (hfit : fits (ty j) (.int (xJ a)) = true) (hR : xR a) (hdg : decode cc pc = .ok (.putfield index, 3))
    (kk : ∀ (H1 : Heap) (locs1 : List Loc) (τ : xS), τ = xU σ k ji a → xW D g h0 s H1 locs1 τ → W p l e R s m args below meth c H1 locs1 cells slots Q (F0 m (pc + 3) ls rest)) : W p l e R s m args below meth c H locs cells slots Q (F0 m pc ls (.int (xJ a) :: .ref (h0 + k) :: rest)) := by
  have hap := va_apart (own := own) hT hc.1 ty hc.2.2.1 hc.2.2.2 hE.1 hc.2.1
  have h9 := hW.1 k (Or.inl hk)
  rw [hcel σ] at h9
  obtain ⟨r, h1, cell, q1, q2, q3, q4⟩ := h9
  have hr : r = (C, t, N) := Option.some.inj (h1.symm.trans hc.2.1)
  subst hr
  obtain ⟨hS, hfc, kC, hkC, hkind⟩ := hE.1.1 ci _ hc.2.1
  obtain ⟨cf, kf, fi, f, hi, hsl⟩ := hS j hj
  have hlay := hT _ (hc.1 _ (u_in_lay hj))
  unfold u_lay at hlay
  rw [if_neg (by rw [hfin]; decide)] at hlay
  have hst := (u_facts hfc hkC (u_lays hT hc.1 hj) hi).1
  have h6 := u_store hfc hkC hkind hlay hi (hc.2.2.1 j hj) hn hfit
  refine va_WputK hx hb (f := f) hown (xE_N hE hl rfl) hi hst (by rw [q2]; exact h6) q1 q3 (by rw [hsl]; exact k2_hasslot (q4 j hj)) rfl rfl hdg fun H1 e1 e2 e3 => ?_
  rw [hsl] at e1 ⊢
  refine kk H1 _ _ rfl (xW_put hW hk e2 e3 (fun k2 h => xU_k σ ji a h) (xRR_U hW.2.1 hR) ?_)
  rw [hcel, hset]
  exact ⟨_, hc.2.1, t_OB.to (V := updV (vp_V (xobj h0 σ k ci)) j (.int (xJ a))) ⟨_, e1, q2, q3, t_set q4 hap hj _⟩ (fun i _ => vp_updV_set hlen _ i)⟩
/-- arrays of numbers: read -/
theorem x_iald {k n : Nat} {a : Int} (hx : p.tables.exec = Jvm.exec) (hb : c.code = cc) (hE : xE D g T h0 s) (hW : xW D g h0 s H locs σ) (hk : xV σ k) (hcel : xcel h0 g σ k = .inl (g.1, n, .inl (fun j => xJ (σ k j)))) (hi : 0 ≤ a ∧ a < (n : Int)) (hnn : n ≤ 2147483647) (hdg : decode cc pc = .ok (.iaload, 1))
    (kk : W p l e R s m args below meth c H locs cells slots Q (F0 m (pc + 1) ls (.int (xJ (σ k a)) :: rest))) : W p l e R s m args below meth c H locs cells slots Q (F0 m pc ls (.int (xJ a) :: .ref (h0 + k) :: rest)) := by
  obtain ⟨h1, h2⟩ := hi
  have hR : xR a := by omega
  have h9 := hW.1 k hk
  rw [hcel] at h9
  refine va_iald (D := D) (cl := vwCl) (ws := [(h0 + k, .inl (g.1, n, .inl (fun j => xJ (σ k j))))]) hx hb hE.1 (fun i q hq => by
    match i, hq with
    | 0, hq => cases hq; exact h9) 0 0 rfl rfl (xJ_in hR h1 h2) hdg ?_
  rw [xJ_cl hR, Int.toNat_of_nonneg h1]
  exact kk
theorem x_zald {k n : Nat} {a : Int} (hx : p.tables.exec = Jvm.exec) (hb : c.code = cc) (hE : xE D g T h0 s) (hW : xW D g h0 s H locs σ) (hk : xV σ k) (hcel : xcel h0 g σ k = .inl (g.2.1, n, .inl (fun j => xJ (σ k j)))) (hi : 0 ≤ a ∧ a < (n : Int)) (hnn : n ≤ 2147483647) (hdg : decode cc pc = .ok (.baload, 1))
    (kk : W p l e R s m args below meth c H locs cells slots Q (F0 m (pc + 1) ls (.int (xJ (σ k a)) :: rest))) : W p l e R s m args below meth c H locs cells slots Q (F0 m pc ls (.int (xJ a) :: .ref (h0 + k) :: rest)) := by
  obtain ⟨h1, h2⟩ := hi
  have hR : xR a := by omega
  have h9 := hW.1 k hk
  rw [hcel] at h9
  refine va_zald (D := D) (cl := vwCl) (ws := [(h0 + k, .inl (g.2.1, n, .inl (fun j => xJ (σ k j))))]) hx hb hE.1 (fun i q hq => by
    match i, hq with
    | 0, hq => cases hq; exact h9) 0 1 rfl rfl (xJ_in hR h1 h2) hdg ?_
  rw [xJ_cl hR, Int.toNat_of_nonneg h1]
  exact kk
theorem x_bald {k n : Nat} {a : Int} (hx : p.tables.exec = Jvm.exec) (hb : c.code = cc) (hE : xE D g T h0 s) (hW : xW D g h0 s H locs σ) (hk : xV σ k) (hcel : xcel h0 g σ k = .inl (g.2.2.1, n, .inl (fun j => xJ (σ k j)))) (hi : 0 ≤ a ∧ a < (n : Int)) (hnn : n ≤ 2147483647) (hdg : decode cc pc = .ok (.baload, 1))
    (kk : W p l e R s m args below meth c H locs cells slots Q (F0 m (pc + 1) ls (.int (xJ (σ k a)) :: rest))) : W p l e R s m args below meth c H locs cells slots Q (F0 m pc ls (.int (xJ a) :: .ref (h0 + k) :: rest)) := by
  obtain ⟨h1, h2⟩ := hi
  have hR : xR a := by omega
  have h9 := hW.1 k hk
  rw [hcel] at h9
  refine va_bald (D := D) (cl := vwCl) (ws := [(h0 + k, .inl (g.2.2.1, n, .inl (fun j => xJ (σ k j))))]) hx hb hE.1 (fun i q hq => by
    match i, hq with
    | 0, hq => cases hq; exact h9) 0 2 rfl rfl (xJ_in hR h1 h2) hdg ?_
  rw [xJ_cl hR, Int.toNat_of_nonneg h1]
  exact kk
theorem x_alen {k n : Nat} {cA : ClassId} {x : vp_A} {t0 : Nat} {ty : FieldType} (hx : p.tables.exec = Jvm.exec) (hb : c.code = cc) (hE : xE D g T h0 s) (hW : xW D g h0 s H locs σ) (hk : xV σ k) (hcel : xcel h0 g σ k = .inl (cA, x)) (ht : (xtys g)[t0]? = some (cA, ty)) (hn : x.1 = n) (hdg : decode cc pc = .ok (.arraylength, 1))
    (kk : W p l e R s m args below meth c H locs cells slots Q (F0 m (pc + 1) ls (.int (xJ (n : Int)) :: rest))) : W p l e R s m args below meth c H locs cells slots Q (F0 m pc ls (.ref (h0 + k) :: rest)) := by
  have h9 := hW.1 k hk
  rw [hcel] at h9
  exact va_alen (D := D) (cl := vwCl) (ws := [(h0 + k, .inl (cA, x))]) hx hb hE.1 (fun i q hq => by
    match i, hq with
    | 0, hq => cases hq; exact h9) 0 t0 rfl ht (by rw [hn, xJ_nat]; rfl) hdg kk
/-- .. and write -/
theorem x_iast {k n : Nat} {a v : Int} (hx : p.tables.exec = Jvm.exec) (hb : c.code = cc) (hE : xE D g T h0 s) (hW : xW D g h0 s H locs σ) (hk : k < 310) (hcel : ∀ σ : xS, xcel h0 g σ k = .inl (g.1, n, .inl (fun j => xJ (σ k j)))) (hi : 0 ≤ a ∧ a < (n : Int)) (hnn : n ≤ 2147483647) (hv : xR v) (hdg : decode cc pc = .ok (.iastore, 1))
    (kk : ∀ (H1 : Heap) (locs1 : List Loc) (τ : xS), τ = xU σ k a v → xW D g h0 s H1 locs1 τ → W p l e R s m args below meth c H1 locs1 cells slots Q (F0 m (pc + 1) ls rest)) : W p l e R s m args below meth c H locs cells slots Q (F0 m pc ls (.int (xJ v) :: .int (xJ a) :: .ref (h0 + k) :: rest)) := by
  obtain ⟨h1, h2⟩ := hi
  have hR : xR a := by omega
  have h9 := hW.1 k (Or.inl hk)
  rw [hcel σ] at h9
  have h9 : H[h0 + k]? = some (arrV g.1 n (fun j => .int (xJ (σ k j)))) := h9
  refine W.iast hx hb h9 ((hE.1.2 0 _ rfl).1 n _) (fun q => by cases q) (by rw [arrV_size]; exact xJ_nin hR h1 h2) rfl rfl hdg fun H1 e1 e2 e3 => ?_
  refine kk H1 _ _ rfl (xW_put hW hk e2 e3 (fun k2 h => xU_k σ a v h) (xRR_U hW.2.1 hv) ?_)
  rw [hcel]
  show H1[h0 + k]? = some (arrV g.1 n (fun j => .int (xJ (xU σ k a v k j))))
  rw [e1, arrV_store, xJ_cl hR]
  congr 2
  funext q
  by_cases hq : q = a.toNat
  · subst hq
    simp [updV, Int.toNat_of_nonneg h1, xU_s]
  · have : (q : Int) ≠ a := by omega
    simp [updV, hq, xU_j σ v this]
theorem x_zast {k n : Nat} {a v : Int} (hx : p.tables.exec = Jvm.exec) (hb : c.code = cc) (hE : xE D g T h0 s) (hW : xW D g h0 s H locs σ) (hk : k < 310) (hcel : ∀ σ : xS, xcel h0 g σ k = .inl (g.2.1, n, .inl (fun j => xJ (σ k j)))) (hi : 0 ≤ a ∧ a < (n : Int)) (hnn : n ≤ 2147483647) (hv : v = 0 ∨ v = 1) (hdg : decode cc pc = .ok (.bastore, 1))
    (kk : ∀ (H1 : Heap) (locs1 : List Loc) (τ : xS), τ = xU σ k a v → xW D g h0 s H1 locs1 τ → W p l e R s m args below meth c H1 locs1 cells slots Q (F0 m (pc + 1) ls rest)) : W p l e R s m args below meth c H locs cells slots Q (F0 m pc ls (.int (xJ v) :: .int (xJ a) :: .ref (h0 + k) :: rest)) := by
  obtain ⟨h1, h2⟩ := hi
  have hR : xR a := by omega
  have h9 := hW.1 k (Or.inl hk)
  rw [hcel σ] at h9
  have h9 : H[h0 + k]? = some (arrV g.2.1 n (fun j => .int (xJ (σ k j)))) := h9
  have hnar : narrow .boolean (.int (xJ v)) = .int (xJ v) := by rcases hv with rfl | rfl <;> rfl
  refine W.zast hx hb h9 ((hE.1.2 1 _ rfl).1 n _) (fun q => by cases q) (by rw [arrV_size]; exact xJ_nin hR h1 h2) rfl rfl hdg fun H1 e1 e2 e3 => ?_
  rw [hnar] at e1
  refine kk H1 _ _ rfl (xW_put hW hk e2 e3 (fun k2 h => xU_k σ a v h) (xRR_U hW.2.1 (by omega)) ?_)
  rw [hcel]
  show H1[h0 + k]? = some (arrV g.2.1 n (fun j => .int (xJ (xU σ k a v k j))))
  rw [e1, arrV_store, xJ_cl hR]
  congr 2
  funext q
  by_cases hq : q = a.toNat
  · subst hq
    simp [updV, Int.toNat_of_nonneg h1, xU_s]
  · have : (q : Int) ≠ a := by omega
    simp [updV, hq, xU_j σ v this]
theorem x_bast {k n : Nat} {a v w : Int} (hx : p.tables.exec = Jvm.exec) (hb : c.code = cc) (hE : xE D g T h0 s) (hW : xW D g h0 s H locs σ) (hk : k < 310) (hcel : ∀ σ : xS, xcel h0 g σ k = .inl (g.2.2.1, n, .inl (fun j => xJ (σ k j)))) (hi : 0 ≤ a ∧ a < (n : Int)) (hnn : n ≤ 2147483647) (hv : narrow .byte (.int (xJ v)) = .int (xJ w)) (hw : xR w) (hdg : decode cc pc = .ok (.bastore, 1))
    (kk : ∀ (H1 : Heap) (locs1 : List Loc) (τ : xS), τ = xU σ k a w → xW D g h0 s H1 locs1 τ → W p l e R s m args below meth c H1 locs1 cells slots Q (F0 m (pc + 1) ls rest)) : W p l e R s m args below meth c H locs cells slots Q (F0 m pc ls (.int (xJ v) :: .int (xJ a) :: .ref (h0 + k) :: rest)) := by
  obtain ⟨h1, h2⟩ := hi
  have hR : xR a := by omega
  have h9 := hW.1 k (Or.inl hk)
  rw [hcel σ] at h9
  have h9 : H[h0 + k]? = some (arrV g.2.2.1 n (fun j => .int (xJ (σ k j)))) := h9
  refine W.bast hx hb h9 ((hE.1.2 2 _ rfl).1 n _) (fun q => by cases q) (by rw [arrV_size]; exact xJ_nin hR h1 h2) rfl rfl hdg fun H1 e1 e2 e3 => ?_
  rw [hv] at e1
  refine kk H1 _ _ rfl (xW_put hW hk e2 e3 (fun k2 h => xU_k σ a w h) (xRR_U hW.2.1 hw) ?_)
  rw [hcel]
  show H1[h0 + k]? = some (arrV g.2.2.1 n (fun j => .int (xJ (xU σ k a w k j))))
  rw [e1, arrV_store, xJ_cl hR]
  congr 2
  funext q
  by_cases hq : q = a.toNat
  · subst hq
    simp [updV, Int.toNat_of_nonneg h1, xU_s]
  · have : (q : Int) ≠ a := by omega
    simp [updV, hq, xU_j σ w this]
/-- frames -/
def xFr (M : Nat → Prop) (σ τ : xS) : Prop := ∀ k, ¬ M k → τ k = σ k
theorem xFr.rf {M : Nat → Prop} : xFr M σ σ := fun _ _ => rfl
theorem xFr.put {M : Nat → Prop} {s1 s2 : xS} {k : Nat} {j v : Int} (h : xFr M σ s1) (e : s2 = xU s1 k j v) (hk : M k) : xFr M σ s2 := fun k2 h2 => by
  rw [e, xU_k s1 j v (fun q => h2 (by rw [q]; exact hk))]
  exact h k2 h2
theorem xFr.call {M M2 : Nat → Prop} {s1 s2 : xS} (h : xFr M σ s1) (h2 : xFr M2 s1 s2) (hs : ∀ k, M2 k → M k) : xFr M σ s2 := fun k hk => (h2 k (fun q => hk (hs k q))).trans (h k hk)
/-- a number that is read -/
theorem x_rd {k : Nat} {j : Int} (hW : xW D g h0 s H locs σ) (kk : ∀ v : Int, v = σ k j → xR v → W p l e R s m args below meth c H locs cells slots Q (F0 m pc ls (.int (xJ v) :: rest))) : W p l e R s m args below meth c H locs cells slots Q (F0 m pc ls (.int (xJ (σ k j)) :: rest)) := kk _ rfl (hW.2.1 k j)
theorem x_nm {a : Int} (kk : ∀ v : Int, v = a → W p l e R s m args below meth c H locs cells slots Q (F0 m pc ls (.int (xJ v) :: rest))) : W p l e R s m args below meth c H locs cells slots Q (F0 m pc ls (.int (xJ a) :: rest)) := kk _ rfl
/-- switches -/
theorem x_tabIn {dflt lo hi v : Int} {offs : Array Int} {len : Nat} {a off : Int} {tgt : Nat} (hx : p.tables.exec = Jvm.exec) (hb : c.code = cc) (ha : xR a) (hv : a = v) (hdg : decode cc pc = .ok (.tableswitch dflt lo hi offs, len)) (h1 : lo ≤ v ∧ v ≤ hi) (ho : offs[(v - lo).toNat]? = some off) (ht : (pc : Int) + off = (tgt : Int)) (k : W p l e R s m args below meth c H locs cells slots Q (F0 m tgt ls rest)) : W p l e R s m args below meth c H locs cells slots Q (F0 m pc ls (.int (xJ a) :: rest)) := by
  subst hv
  exact lv_tableIn hx hb hdg (by rw [xJ_toInt ha]; omega) (by rw [xJ_toInt ha]; omega) (by rw [xJ_toInt ha]; exact ho) ht k
theorem x_tabOut {dflt lo hi : Int} {offs : Array Int} {len : Nat} {a : Int} {tgt : Nat} (hx : p.tables.exec = Jvm.exec) (hb : c.code = cc) (ha : xR a) (hdg : decode cc pc = .ok (.tableswitch dflt lo hi offs, len)) (h : a < lo ∨ hi < a) (ht : (pc : Int) + dflt = (tgt : Int)) (k : W p l e R s m args below meth c H locs cells slots Q (F0 m tgt ls rest)) : W p l e R s m args below meth c H locs cells slots Q (F0 m pc ls (.int (xJ a) :: rest)) := lv_tableOut hx hb hdg (by rw [xJ_toInt ha]; exact h) ht k
theorem x_look {dflt : Int} {ps : Array (Int × Int)} {len : Nat} {a off : Int} {tgt : Nat} (hx : p.tables.exec = Jvm.exec) (hb : c.code = cc) (ha : xR a) (hdg : decode cc pc = .ok (.lookupswitch dflt ps, len)) (hp : (ps.toList.zip (ps.toList.drop 1)).all (fun (a, next) => a.1 < next.1) = true) (ho : Op.lookupswitch.offset ps.toList dflt a = off) (ht : (pc : Int) + off = (tgt : Int)) (k : W p l e R s m args below meth c H locs cells slots Q (F0 m tgt ls rest)) : W p l e R s m args below meth c H locs cells slots Q (F0 m pc ls (.int (xJ a) :: rest)) := lv_lookup hx hb hdg hp (by rw [xJ_toInt ha]; exact ho) ht k
/-- static tables -/
theorem x_wx (hx : p.tables.exec = Jvm.exec) (hb : c.code = cc) {a : Int} (hE : xE D g T h0 s) (hW : xW D g h0 s H locs σ) (hi : 0 ≤ a ∧ a < 8) (hdg : decode cc pc = .ok (.iaload, 1)) (kk : W p l e R s m args below meth c H locs cells slots Q (F0 m (pc + 1) ls (.int (xJ (xwx a.toNat)) :: rest))) : W p l e R s m args below meth c H locs cells slots Q (F0 m pc ls (.int (xJ a) :: .ref T.1 :: rest)) :=
  va_ti hx hb hE.2.2.1.2 hW.2.2 (xJ_in (by omega) hi.1 hi.2) (by rw [xJ_cl (by omega)]) hdg kk
theorem x_wy (hx : p.tables.exec = Jvm.exec) (hb : c.code = cc) {a : Int} (hE : xE D g T h0 s) (hW : xW D g h0 s H locs σ) (hi : 0 ≤ a ∧ a < 8) (hdg : decode cc pc = .ok (.iaload, 1)) (kk : W p l e R s m args below meth c H locs cells slots Q (F0 m (pc + 1) ls (.int (xJ (xwy a.toNat)) :: rest))) : W p l e R s m args below meth c H locs cells slots Q (F0 m pc ls (.int (xJ a) :: .ref T.2.1 :: rest)) :=
  va_ti hx hb hE.2.2.2.1.2 hW.2.2 (xJ_in (by omega) hi.1 hi.2) (by rw [xJ_cl (by omega)]) hdg kk
theorem x_lt (hx : p.tables.exec = Jvm.exec) (hb : c.code = cc) {a : Int} (hE : xE D g T h0 s) (hW : xW D g h0 s H locs σ) (hi : 0 ≤ a ∧ a < 7) (hdg : decode cc pc = .ok (.iaload, 1)) (kk : W p l e R s m args below meth c H locs cells slots Q (F0 m (pc + 1) ls (.int (xJ (xlt a.toNat)) :: rest))) : W p l e R s m args below meth c H locs cells slots Q (F0 m pc ls (.int (xJ a) :: .ref T.2.2 :: rest)) :=
  va_ti hx hb hE.2.2.2.2.2 hW.2.2 (xJ_in (by omega) hi.1 hi.2) (by rw [xJ_cl (by omega)]) hdg kk
/-- calls -/
def xCF (y : MethodName) (bytes : ByteArray) (maxL : Nat) (ret : Option FieldType) (n : Nat) : Prop := Cond.code y bytes maxL ret ∈ xTB ∧ Cond.initialized y.cls ∈ xTB ∧ (y.cls ≠ "java/lang/invoke/MethodHandle" ∧ y.cls ≠ "java/lang/invoke/VarHandle" ∧ (parseMethodDescriptor y.desc).map (fun d => d.parameters.length) = some n)
def xRm (rm R : Room) (maxL mc ms cells slots : Nat) : Prop := rm.cells = mc ∧ rm.slots = ms ∧ (rm.frames + 1 ≤ R.frames ∧ 8 + (maxL + 11) + rm.locals ≤ R.locals) ∧ (cells + mc ≤ R.cells ∧ slots + ms ≤ R.slots)
variable {own C : String} {index n nL maxL mc ms k ci : Nat} {y : MethodName} {bytes : ByteArray} {ret : Option FieldType} {rm : Room} {As : List Value} {Qc : Array Value → State → Outcome → State → Prop} {free : Addr → Prop}
theorem x_preV {t9 : u_T} {N9 : Nat} (hE : xE D g T h0 s) (hW : xW D g h0 s H locs σ) (hk : xV σ k) (hcel : xcel h0 g σ k = .inr (ci, xobj h0 σ k ci)) (hci : vwCl[ci]? = some (C, t9, N9)) : PreV s H C (h0 + k) (xP (.ref (h0 + k) :: As) D g T h0 σ) As := by
  refine ⟨xP_blind, ?_, fun U hU hWm => ⟨rfl, xE_move hE hW.2.2 hWm hU, by rw [hU]; exact hW.1⟩⟩
  have h9 := hW.1 k hk
  rw [hcel] at h9
  obtain ⟨q', h1, cell, g1, g2, g3, -⟩ := h9
  exact ⟨cell, g1, by rw [g3]; rfl, by rw [g2]; exact (hE.1.1 ci _ hci).2.1⟩
theorem x_preS (hE : xE D g T h0 s) (hW : xW D g h0 s H locs σ) : PreS s H (xP As D g T h0 σ) As := ⟨xP_blind, fun U hU hWm => ⟨rfl, xE_move hE hW.2.2 hWm hU, by rw [hU]; exact hW.1⟩⟩
theorem x_runV {t9 : u_T} {N9 : Nat} (hx : p.tables.exec = Jvm.exec) (hb : c.code = cc) (hml : c.maxLocals = nL) (hown : s.vm.findClass own = some m.cls) (hT : ∀ w ∈ xTB, w.before args s = true) (hE : xE D g T h0 s) (hW : xW D g h0 s H locs σ) (hls : ls.size = nL) (hk : xV σ k) (hcel : xcel h0 g σ k = .inr (ci, xobj h0 σ k ci)) (hci : vwCl[ci]? = some (y.cls, t9, N9)) (cf : xCF y bytes maxL ret n) (hin : Cond.instanceMethod y ∈ xTB) (hsel : Cond.selects y.cls y y ∈ xTB) (hl : Cond.methodLink own index y ∈ xTB) (hM : Met l y (xws y bytes maxL ret) rm (xP (.ref (h0 + k) :: As) D g T h0 σ) Qc mc ms free) (hrm : xRm rm R maxL mc ms cells slots) (hn : As.length = n) (hst : st0 = As.reverse ++ .ref (h0 + k) :: rest) (hrest : (rest.map fun v => v.category).sum ≤ 8) (hdg : decode cc pc = .ok (.invokevirtual index, 3)) :
    va_Run p l e R s m args below meth c H locs cells slots mc ms (F0 m pc ls st0) rest (Qc (Value.ref (h0 + k) :: As).toArray) free :=
  va_runV (Ts := xTB) ⟨hx, hb, hml, hown, hT⟩ hM ⟨callB_of n hT (xws_good (fun _ h => h) cf.1) rfl hrm.1 hrm.2.1 (hT _ cf.2.1) (hT _ hl) cf.2.2 hrm.2.2.1, hT _ hin, hT _ hsel⟩ (x_preV hE hW hk hcel hci) rfl hn hls hst (lv_room hrest) hdg hrm.2.2.2
theorem x_runVN {host : String} {t9 : u_T} {N9 : Nat} (hx : p.tables.exec = Jvm.exec) (hb : c.code = cc) (hml : c.maxLocals = nL) (hown : s.vm.findClass own = some m.cls) (hT : ∀ w ∈ xTB, w.before args s = true) (hE : xE D g T h0 s) (hW : xW D g h0 s H locs σ) (hls : ls.size = nL) (hk : xV σ k) (hcel : xcel h0 g σ k = .inr (ci, xobj h0 σ k ci)) (hci : vwCl[ci]? = some (y.cls, t9, N9)) (cf : xCF y bytes maxL ret n) (hin : Cond.instanceMethod y ∈ xTB) (hsel : Cond.selects y.cls y y ∈ xTB) (hl : Cond.methodLinkNest own index y host ∈ xNL) (hM : Met l y (xws y bytes maxL ret) rm (xP (.ref (h0 + k) :: As) D g T h0 σ) Qc mc ms free) (hrm : xRm rm R maxL mc ms cells slots) (hn : As.length = n) (hst : st0 = As.reverse ++ .ref (h0 + k) :: rest) (hrest : (rest.map fun v => v.category).sum ≤ 8) (hdg : decode cc pc = .ok (.invokevirtual index, 3)) :
    va_Run p l e R s m args below meth c H locs cells slots mc ms (F0 m pc ls st0) rest (Qc (Value.ref (h0 + k) :: As).toArray) free :=
  va_runVN (Ts := xTB) ⟨hx, hb, hml, hown, hT⟩ hM ⟨va_cnB n hT (xws_good (fun _ h => h) cf.1) rfl hrm.1 hrm.2.1 (hE.2.1.1 _ hl) (hT _ cf.2.1) cf.2.2 hrm.2.2.1, hT _ hin, hT _ hsel⟩ (x_preV hE hW hk hcel hci) rfl hn hls hst (lv_room hrest) hdg hrm.2.2.2
theorem x_runS (hx : p.tables.exec = Jvm.exec) (hb : c.code = cc) (hml : c.maxLocals = nL) (hown : s.vm.findClass own = some m.cls) (hT : ∀ w ∈ xTB, w.before args s = true) (hE : xE D g T h0 s) (hW : xW D g h0 s H locs σ) (hls : ls.size = nL) (cf : xCF y bytes maxL ret n) (hst1 : Cond.static y ∈ xTB) (hl : Cond.methodLink own index y ∈ xTB) (hM : Met l y (xws y bytes maxL ret) rm (xP As D g T h0 σ) Qc mc ms free) (hrm : xRm rm R maxL mc ms cells slots) (hn : As.length = n) (hst : st0 = As.reverse ++ rest) (hrest : (rest.map fun v => v.category).sum ≤ 8) (hdg : decode cc pc = .ok (.invokestatic index, 3)) :
    va_Run p l e R s m args below meth c H locs cells slots mc ms (F0 m pc ls st0) rest (Qc As.toArray) free :=
  va_runS (Ts := xTB) ⟨hx, hb, hml, hown, hT⟩ hM ⟨callB_of n hT (xws_good (fun _ h => h) cf.1) rfl hrm.1 hrm.2.1 (hT _ cf.2.1) (hT _ hl) cf.2.2 hrm.2.2.1, hT _ hst1⟩ (x_preS hE hW) rfl hn hls hst (lv_room hrest) hdg hrm.2.2.2
theorem x_runSN {host : String} (hx : p.tables.exec = Jvm.exec) (hb : c.code = cc) (hml : c.maxLocals = nL) (hown : s.vm.findClass own = some m.cls) (hT : ∀ w ∈ xTB, w.before args s = true) (hE : xE D g T h0 s) (hW : xW D g h0 s H locs σ) (hls : ls.size = nL) (cf : xCF y bytes maxL ret n) (hst1 : Cond.static y ∈ xTB) (hl : Cond.methodLinkNest own index y host ∈ xNL) (hM : Met l y (xws y bytes maxL ret) rm (xP As D g T h0 σ) Qc mc ms free) (hrm : xRm rm R maxL mc ms cells slots) (hn : As.length = n) (hst : st0 = As.reverse ++ rest) (hrest : (rest.map fun v => v.category).sum ≤ 8) (hdg : decode cc pc = .ok (.invokestatic index, 3)) :
    va_Run p l e R s m args below meth c H locs cells slots mc ms (F0 m pc ls st0) rest (Qc As.toArray) free :=
  va_runSN (Ts := xTB) ⟨hx, hb, hml, hown, hT⟩ hM ⟨va_cnB n hT (xws_good (fun _ h => h) cf.1) rfl hrm.1 hrm.2.1 (hE.2.1.1 _ hl) (hT _ cf.2.1) cf.2.2 hrm.2.2.1, hT _ hst1, trivial⟩ (x_preS hE hW) rfl hn hls hst (lv_room hrest) hdg hrm.2.2.2
variable {a0 : Array Value}
theorem xS_go {st₀ t T' : State} {L : List Loc} (hW : xW D g h0 s H locs σ) (h9 : st₀.heap = H) (hL : ∀ q ∈ L, xA h0 q.base) (e1 : T'.heap = t.heap) (hF : va_F (xA h0) st₀ t) : va_S (xA h0) s.heap T'.heap (locs ++ L) := by
  obtain ⟨hz, hk⟩ := hF
  rw [h9] at hz hk
  have hS := hW.2.2
  refine ⟨Nat.le_trans hS.1 (by rw [e1]; exact hz), fun q h1 h2 => by rw [e1, hk q (Nat.lt_of_lt_of_le h1 hS.1) h2]; exact hS.2.1 q h1 h2, fun q hq => ?_⟩
  rcases List.mem_append.mp hq with h | h
  · exact hS.2.2 q h
  · exact hL q h
theorem x_goi {post : Int → xS → Prop} (hr : va_Run p l e R s m args below meth c H locs cells slots mc ms (F0 m pc ls st0) rest (xQi D g h0 post a0) (xA h0)) (hW : xW D g h0 s H locs σ)
    (kk : ∀ (r : Int) (τ : xS) (H1 : Heap) (locs1 : List Loc), xR r → post r τ → xW D g h0 s H1 locs1 τ → W p l e R s m args below meth c H1 locs1 (cells + mc) (slots + ms) Q (F0 m (pc + 3) ls (.int (xJ r) :: rest))) : W p l e R s m args below meth c H locs cells slots Q (F0 m pc ls st0) := by
  intro T hT X
  obtain ⟨v, st₀, t, T', L, h9, X', hL, e1, e2, ⟨⟨r, τ, hv, hR, hp, hRR, hb⟩, hF⟩, st⟩ := hr T hT X
  cases hv
  obtain ⟨t2, a1, b1⟩ := kk r τ T'.heap (locs ++ L) hR hp ⟨by rw [e1]; exact hb, hRR, xS_go hW h9 hL e1 hF⟩ T' rfl X'
  exact ⟨t2, st t2 a1, b1⟩
theorem x_gov {post : xS → Prop} (hr : va_Run p l e R s m args below meth c H locs cells slots mc ms (F0 m pc ls st0) rest (xQv D g h0 post a0) (xA h0)) (hW : xW D g h0 s H locs σ)
    (kk : ∀ (τ : xS) (H1 : Heap) (locs1 : List Loc), post τ → xW D g h0 s H1 locs1 τ → W p l e R s m args below meth c H1 locs1 (cells + mc) (slots + ms) Q (F0 m (pc + 3) ls rest)) : W p l e R s m args below meth c H locs cells slots Q (F0 m pc ls st0) := by
  intro T hT X
  obtain ⟨v, st₀, t, T', L, h9, X', hL, e1, e2, ⟨⟨τ, hv, hp, hRR, hb⟩, hF⟩, st⟩ := hr T hT X
  cases hv
  obtain ⟨t2, a1, b1⟩ := kk τ T'.heap (locs ++ L) hp ⟨by rw [e1]; exact hb, hRR, xS_go hW h9 hL e1 hF⟩ T' rfl X'
  exact ⟨t2, st t2 a1, b1⟩
theorem x_gor {post : Nat → xS → Prop} (hr : va_Run p l e R s m args below meth c H locs cells slots mc ms (F0 m pc ls st0) rest (xQr D g h0 post a0) (xA h0)) (hW : xW D g h0 s H locs σ)
    (kk : ∀ (r : Nat) (τ : xS) (H1 : Heap) (locs1 : List Loc), post r τ → xW D g h0 s H1 locs1 τ → W p l e R s m args below meth c H1 locs1 (cells + mc) (slots + ms) Q (F0 m (pc + 3) ls (.ref (h0 + r) :: rest))) : W p l e R s m args below meth c H locs cells slots Q (F0 m pc ls st0) := by
  intro T hT X
  obtain ⟨v, st₀, t, T', L, h9, X', hL, e1, e2, ⟨⟨r, τ, hv, hp, hRR, hb⟩, hF⟩, st⟩ := hr T hT X
  cases hv
  obtain ⟨t2, a1, b1⟩ := kk r τ T'.heap (locs ++ L) hp ⟨by rw [e1]; exact hb, hRR, xS_go hW h9 hL e1 hF⟩ T' rfl X'
  exact ⟨t2, st t2 a1, b1⟩
theorem x_mmax (hx : p.tables.exec = Jvm.exec) (hb : c.code = cc) (hml : c.maxLocals = nL) (hls : ls.size = nL) (hown : s.vm.findClass own = some m.cls) (hT : ∀ w ∈ xTB, w.before args s = true) (hl : Cond.methodLink own index Lib.Math.max.name ∈ xTB) (h2 : Cond.static Lib.Math.max.name ∈ xTB) (h3 : Cond.initialized "java/lang/Math" ∈ xTB) (h4 : Cond.code Lib.Math.max.name Lib.Math.max.code 2 (some .int) ∈ xTB) (hrm : 1 ≤ R.frames ∧ (rest.map fun v => v.category).sum + 13 ≤ R.locals ∧ cells ≤ R.cells ∧ slots ≤ R.slots) {a b : Int} (ha : xR a) (hb2 : xR b) (hdg : decode cc pc = .ok (.invokestatic index, 3))
    (kk : W p l e R s m args below meth c H locs cells slots Q (F0 m (pc + 3) ls (.int (xJ (if a < b then b else a)) :: rest))) : W p l e R s m args below meth c H locs cells slots Q (F0 m pc ls (.int (xJ b) :: .int (xJ a) :: rest)) :=
  va_mmax hx hb (hml.trans hls.symm) hown (hT _ hl) (hT _ h2) (hT _ h3) (hT _ h4) hrm.1 hrm.2.1 hrm.2.2.1 hrm.2.2.2 hdg (by
    have e : (if xJ a < xJ b then xJ b else xJ a) = xJ (if a < b then b else a) := by
      by_cases h : a < b
      · rw [if_pos h, if_pos ((xJ_lt ha hb2).mpr h)]
      · rw [if_neg h, if_neg (fun q => h ((xJ_lt ha hb2).mp q))]
    rw [e]; exact kk)
end X2
section X3
variable (h0 : Nat) (g : xG)
theorem so_0 (σ : xS) : xcel h0 g σ 0 = .inr (10, xobj h0 σ 0 10) := rfl
theorem so_1 (σ : xS) : xcel h0 g σ 1 = .inr (8, xobj h0 σ 1 8) := rfl
theorem sa_2 (σ : xS) : xcel h0 g σ 2 = .inl (g.1, 260, .inl (fun j => xJ (σ 2 j))) := rfl
theorem so_3 (σ : xS) : xcel h0 g σ 3 = .inr (6, xobj h0 σ 3 6) := rfl
theorem sa_4 (σ : xS) : xcel h0 g σ 4 = .inl (g.1, 100, .inl (fun j => xJ (σ 4 j))) := rfl
theorem sa_5 (σ : xS) : xcel h0 g σ 5 = .inl (g.1, 100, .inl (fun j => xJ (σ 5 j))) := rfl
theorem sg_6 (σ : xS) : xcel h0 g σ 6 = .inl (g.2.2.2.1, 100, .inr (.inr (.inr (.inr (fun j => some (h0 + xrow σ 6 j)))))) := rfl
theorem sa_7 (σ : xS) : xcel h0 g σ 7 = .inl (g.1, 100, .inl (fun j => xJ (σ 7 j))) := rfl
theorem sa_8 (σ : xS) : xcel h0 g σ 8 = .inl (g.1, 100, .inl (fun j => xJ (σ 8 j))) := rfl
theorem sa_9 (σ : xS) : xcel h0 g σ 9 = .inl (g.1, 100, .inl (fun j => xJ (σ 9 j))) := rfl
theorem sa_10 (σ : xS) : xcel h0 g σ 10 = .inl (g.1, 100, .inl (fun j => xJ (σ 10 j))) := rfl
theorem sa_11 (σ : xS) : xcel h0 g σ 11 = .inl (g.1, 100, .inl (fun j => xJ (σ 11 j))) := rfl
theorem sa_12 (σ : xS) : xcel h0 g σ 12 = .inl (g.1, 100, .inl (fun j => xJ (σ 12 j))) := rfl
theorem sa_13 (σ : xS) : xcel h0 g σ 13 = .inl (g.1, 100, .inl (fun j => xJ (σ 13 j))) := rfl
theorem sa_14 (σ : xS) : xcel h0 g σ 14 = .inl (g.1, 100, .inl (fun j => xJ (σ 14 j))) := rfl
theorem sa_15 (σ : xS) : xcel h0 g σ 15 = .inl (g.1, 100, .inl (fun j => xJ (σ 15 j))) := rfl
theorem sa_16 (σ : xS) : xcel h0 g σ 16 = .inl (g.1, 100, .inl (fun j => xJ (σ 16 j))) := rfl
theorem sa_17 (σ : xS) : xcel h0 g σ 17 = .inl (g.1, 100, .inl (fun j => xJ (σ 17 j))) := rfl
theorem sa_18 (σ : xS) : xcel h0 g σ 18 = .inl (g.1, 100, .inl (fun j => xJ (σ 18 j))) := rfl
theorem sa_19 (σ : xS) : xcel h0 g σ 19 = .inl (g.1, 100, .inl (fun j => xJ (σ 19 j))) := rfl
theorem sa_20 (σ : xS) : xcel h0 g σ 20 = .inl (g.1, 100, .inl (fun j => xJ (σ 20 j))) := rfl
theorem sa_21 (σ : xS) : xcel h0 g σ 21 = .inl (g.1, 100, .inl (fun j => xJ (σ 21 j))) := rfl
theorem sa_22 (σ : xS) : xcel h0 g σ 22 = .inl (g.1, 100, .inl (fun j => xJ (σ 22 j))) := rfl
theorem sa_23 (σ : xS) : xcel h0 g σ 23 = .inl (g.1, 100, .inl (fun j => xJ (σ 23 j))) := rfl
theorem sa_24 (σ : xS) : xcel h0 g σ 24 = .inl (g.1, 100, .inl (fun j => xJ (σ 24 j))) := rfl
theorem sa_25 (σ : xS) : xcel h0 g σ 25 = .inl (g.1, 100, .inl (fun j => xJ (σ 25 j))) := rfl
theorem sa_26 (σ : xS) : xcel h0 g σ 26 = .inl (g.1, 100, .inl (fun j => xJ (σ 26 j))) := rfl
theorem sa_27 (σ : xS) : xcel h0 g σ 27 = .inl (g.1, 100, .inl (fun j => xJ (σ 27 j))) := rfl
theorem sa_28 (σ : xS) : xcel h0 g σ 28 = .inl (g.1, 100, .inl (fun j => xJ (σ 28 j))) := rfl
theorem sa_29 (σ : xS) : xcel h0 g σ 29 = .inl (g.1, 100, .inl (fun j => xJ (σ 29 j))) := rfl
theorem sa_30 (σ : xS) : xcel h0 g σ 30 = .inl (g.1, 100, .inl (fun j => xJ (σ 30 j))) := rfl
theorem sa_31 (σ : xS) : xcel h0 g σ 31 = .inl (g.1, 100, .inl (fun j => xJ (σ 31 j))) := rfl
theorem sa_32 (σ : xS) : xcel h0 g σ 32 = .inl (g.1, 100, .inl (fun j => xJ (σ 32 j))) := rfl
theorem sa_33 (σ : xS) : xcel h0 g σ 33 = .inl (g.1, 100, .inl (fun j => xJ (σ 33 j))) := rfl
theorem sa_34 (σ : xS) : xcel h0 g σ 34 = .inl (g.1, 100, .inl (fun j => xJ (σ 34 j))) := rfl
theorem sa_35 (σ : xS) : xcel h0 g σ 35 = .inl (g.1, 100, .inl (fun j => xJ (σ 35 j))) := rfl
theorem sa_36 (σ : xS) : xcel h0 g σ 36 = .inl (g.1, 100, .inl (fun j => xJ (σ 36 j))) := rfl
theorem sa_37 (σ : xS) : xcel h0 g σ 37 = .inl (g.1, 100, .inl (fun j => xJ (σ 37 j))) := rfl
theorem sa_38 (σ : xS) : xcel h0 g σ 38 = .inl (g.1, 100, .inl (fun j => xJ (σ 38 j))) := rfl
theorem sa_39 (σ : xS) : xcel h0 g σ 39 = .inl (g.1, 100, .inl (fun j => xJ (σ 39 j))) := rfl
theorem sa_40 (σ : xS) : xcel h0 g σ 40 = .inl (g.1, 100, .inl (fun j => xJ (σ 40 j))) := rfl
theorem sa_41 (σ : xS) : xcel h0 g σ 41 = .inl (g.1, 100, .inl (fun j => xJ (σ 41 j))) := rfl
theorem sa_42 (σ : xS) : xcel h0 g σ 42 = .inl (g.1, 100, .inl (fun j => xJ (σ 42 j))) := rfl
theorem sa_43 (σ : xS) : xcel h0 g σ 43 = .inl (g.1, 100, .inl (fun j => xJ (σ 43 j))) := rfl
theorem sa_44 (σ : xS) : xcel h0 g σ 44 = .inl (g.1, 100, .inl (fun j => xJ (σ 44 j))) := rfl
theorem sa_45 (σ : xS) : xcel h0 g σ 45 = .inl (g.1, 100, .inl (fun j => xJ (σ 45 j))) := rfl
theorem sa_46 (σ : xS) : xcel h0 g σ 46 = .inl (g.1, 100, .inl (fun j => xJ (σ 46 j))) := rfl
theorem sa_47 (σ : xS) : xcel h0 g σ 47 = .inl (g.1, 100, .inl (fun j => xJ (σ 47 j))) := rfl
theorem sa_48 (σ : xS) : xcel h0 g σ 48 = .inl (g.1, 100, .inl (fun j => xJ (σ 48 j))) := rfl
theorem sa_49 (σ : xS) : xcel h0 g σ 49 = .inl (g.1, 100, .inl (fun j => xJ (σ 49 j))) := rfl
theorem sa_50 (σ : xS) : xcel h0 g σ 50 = .inl (g.1, 100, .inl (fun j => xJ (σ 50 j))) := rfl
theorem sa_51 (σ : xS) : xcel h0 g σ 51 = .inl (g.1, 100, .inl (fun j => xJ (σ 51 j))) := rfl
theorem sa_52 (σ : xS) : xcel h0 g σ 52 = .inl (g.1, 100, .inl (fun j => xJ (σ 52 j))) := rfl
theorem sa_53 (σ : xS) : xcel h0 g σ 53 = .inl (g.1, 100, .inl (fun j => xJ (σ 53 j))) := rfl
theorem sa_54 (σ : xS) : xcel h0 g σ 54 = .inl (g.1, 100, .inl (fun j => xJ (σ 54 j))) := rfl
theorem sa_55 (σ : xS) : xcel h0 g σ 55 = .inl (g.1, 100, .inl (fun j => xJ (σ 55 j))) := rfl
theorem sa_56 (σ : xS) : xcel h0 g σ 56 = .inl (g.1, 100, .inl (fun j => xJ (σ 56 j))) := rfl
theorem sa_57 (σ : xS) : xcel h0 g σ 57 = .inl (g.1, 100, .inl (fun j => xJ (σ 57 j))) := rfl
theorem sa_58 (σ : xS) : xcel h0 g σ 58 = .inl (g.1, 100, .inl (fun j => xJ (σ 58 j))) := rfl
theorem sa_59 (σ : xS) : xcel h0 g σ 59 = .inl (g.1, 100, .inl (fun j => xJ (σ 59 j))) := rfl
theorem sa_60 (σ : xS) : xcel h0 g σ 60 = .inl (g.1, 100, .inl (fun j => xJ (σ 60 j))) := rfl
theorem sa_61 (σ : xS) : xcel h0 g σ 61 = .inl (g.1, 100, .inl (fun j => xJ (σ 61 j))) := rfl
theorem sa_62 (σ : xS) : xcel h0 g σ 62 = .inl (g.1, 100, .inl (fun j => xJ (σ 62 j))) := rfl
theorem sa_63 (σ : xS) : xcel h0 g σ 63 = .inl (g.1, 100, .inl (fun j => xJ (σ 63 j))) := rfl
theorem sa_64 (σ : xS) : xcel h0 g σ 64 = .inl (g.1, 100, .inl (fun j => xJ (σ 64 j))) := rfl
theorem sa_65 (σ : xS) : xcel h0 g σ 65 = .inl (g.1, 100, .inl (fun j => xJ (σ 65 j))) := rfl
theorem sa_66 (σ : xS) : xcel h0 g σ 66 = .inl (g.1, 100, .inl (fun j => xJ (σ 66 j))) := rfl
theorem sa_67 (σ : xS) : xcel h0 g σ 67 = .inl (g.1, 100, .inl (fun j => xJ (σ 67 j))) := rfl
theorem sa_68 (σ : xS) : xcel h0 g σ 68 = .inl (g.1, 100, .inl (fun j => xJ (σ 68 j))) := rfl
theorem sa_69 (σ : xS) : xcel h0 g σ 69 = .inl (g.1, 100, .inl (fun j => xJ (σ 69 j))) := rfl
theorem sa_70 (σ : xS) : xcel h0 g σ 70 = .inl (g.1, 100, .inl (fun j => xJ (σ 70 j))) := rfl
theorem sa_71 (σ : xS) : xcel h0 g σ 71 = .inl (g.1, 100, .inl (fun j => xJ (σ 71 j))) := rfl
theorem sa_72 (σ : xS) : xcel h0 g σ 72 = .inl (g.1, 100, .inl (fun j => xJ (σ 72 j))) := rfl
theorem sa_73 (σ : xS) : xcel h0 g σ 73 = .inl (g.1, 100, .inl (fun j => xJ (σ 73 j))) := rfl
theorem sa_74 (σ : xS) : xcel h0 g σ 74 = .inl (g.1, 100, .inl (fun j => xJ (σ 74 j))) := rfl
theorem sa_75 (σ : xS) : xcel h0 g σ 75 = .inl (g.1, 100, .inl (fun j => xJ (σ 75 j))) := rfl
theorem sa_76 (σ : xS) : xcel h0 g σ 76 = .inl (g.1, 100, .inl (fun j => xJ (σ 76 j))) := rfl
theorem sa_77 (σ : xS) : xcel h0 g σ 77 = .inl (g.1, 100, .inl (fun j => xJ (σ 77 j))) := rfl
theorem sa_78 (σ : xS) : xcel h0 g σ 78 = .inl (g.1, 100, .inl (fun j => xJ (σ 78 j))) := rfl
theorem sa_79 (σ : xS) : xcel h0 g σ 79 = .inl (g.1, 100, .inl (fun j => xJ (σ 79 j))) := rfl
theorem sa_80 (σ : xS) : xcel h0 g σ 80 = .inl (g.1, 100, .inl (fun j => xJ (σ 80 j))) := rfl
theorem sa_81 (σ : xS) : xcel h0 g σ 81 = .inl (g.1, 100, .inl (fun j => xJ (σ 81 j))) := rfl
theorem sa_82 (σ : xS) : xcel h0 g σ 82 = .inl (g.1, 100, .inl (fun j => xJ (σ 82 j))) := rfl
theorem sa_83 (σ : xS) : xcel h0 g σ 83 = .inl (g.1, 100, .inl (fun j => xJ (σ 83 j))) := rfl
theorem sa_84 (σ : xS) : xcel h0 g σ 84 = .inl (g.1, 100, .inl (fun j => xJ (σ 84 j))) := rfl
theorem sa_85 (σ : xS) : xcel h0 g σ 85 = .inl (g.1, 100, .inl (fun j => xJ (σ 85 j))) := rfl
theorem sa_86 (σ : xS) : xcel h0 g σ 86 = .inl (g.1, 100, .inl (fun j => xJ (σ 86 j))) := rfl
theorem sa_87 (σ : xS) : xcel h0 g σ 87 = .inl (g.1, 100, .inl (fun j => xJ (σ 87 j))) := rfl
theorem sa_88 (σ : xS) : xcel h0 g σ 88 = .inl (g.1, 100, .inl (fun j => xJ (σ 88 j))) := rfl
theorem sa_89 (σ : xS) : xcel h0 g σ 89 = .inl (g.1, 100, .inl (fun j => xJ (σ 89 j))) := rfl
theorem sa_90 (σ : xS) : xcel h0 g σ 90 = .inl (g.1, 100, .inl (fun j => xJ (σ 90 j))) := rfl
theorem sa_91 (σ : xS) : xcel h0 g σ 91 = .inl (g.1, 100, .inl (fun j => xJ (σ 91 j))) := rfl
theorem sa_92 (σ : xS) : xcel h0 g σ 92 = .inl (g.1, 100, .inl (fun j => xJ (σ 92 j))) := rfl
theorem sa_93 (σ : xS) : xcel h0 g σ 93 = .inl (g.1, 100, .inl (fun j => xJ (σ 93 j))) := rfl
theorem sa_94 (σ : xS) : xcel h0 g σ 94 = .inl (g.1, 100, .inl (fun j => xJ (σ 94 j))) := rfl
theorem sa_95 (σ : xS) : xcel h0 g σ 95 = .inl (g.1, 100, .inl (fun j => xJ (σ 95 j))) := rfl
theorem sa_96 (σ : xS) : xcel h0 g σ 96 = .inl (g.1, 100, .inl (fun j => xJ (σ 96 j))) := rfl
theorem sa_97 (σ : xS) : xcel h0 g σ 97 = .inl (g.1, 100, .inl (fun j => xJ (σ 97 j))) := rfl
theorem sa_98 (σ : xS) : xcel h0 g σ 98 = .inl (g.1, 100, .inl (fun j => xJ (σ 98 j))) := rfl
theorem sa_99 (σ : xS) : xcel h0 g σ 99 = .inl (g.1, 100, .inl (fun j => xJ (σ 99 j))) := rfl
theorem sa_100 (σ : xS) : xcel h0 g σ 100 = .inl (g.1, 100, .inl (fun j => xJ (σ 100 j))) := rfl
theorem sa_101 (σ : xS) : xcel h0 g σ 101 = .inl (g.1, 100, .inl (fun j => xJ (σ 101 j))) := rfl
theorem sa_102 (σ : xS) : xcel h0 g σ 102 = .inl (g.1, 100, .inl (fun j => xJ (σ 102 j))) := rfl
theorem sa_103 (σ : xS) : xcel h0 g σ 103 = .inl (g.1, 100, .inl (fun j => xJ (σ 103 j))) := rfl
theorem sa_104 (σ : xS) : xcel h0 g σ 104 = .inl (g.1, 100, .inl (fun j => xJ (σ 104 j))) := rfl
theorem sa_105 (σ : xS) : xcel h0 g σ 105 = .inl (g.1, 100, .inl (fun j => xJ (σ 105 j))) := rfl
theorem sa_106 (σ : xS) : xcel h0 g σ 106 = .inl (g.1, 100, .inl (fun j => xJ (σ 106 j))) := rfl
theorem sa_107 (σ : xS) : xcel h0 g σ 107 = .inl (g.2.1, 100, .inl (fun j => xJ (σ 107 j))) := rfl
theorem sa_108 (σ : xS) : xcel h0 g σ 108 = .inl (g.1, 100, .inl (fun j => xJ (σ 108 j))) := rfl
theorem so_109 (σ : xS) : xcel h0 g σ 109 = .inr (4, xobj h0 σ 109 4) := rfl
theorem sa_110 (σ : xS) : xcel h0 g σ 110 = .inl (g.1, 300, .inl (fun j => xJ (σ 110 j))) := rfl
theorem sa_111 (σ : xS) : xcel h0 g σ 111 = .inl (g.1, 300, .inl (fun j => xJ (σ 111 j))) := rfl
theorem sa_112 (σ : xS) : xcel h0 g σ 112 = .inl (g.1, 16, .inl (fun j => xJ (σ 112 j))) := rfl
theorem sa_113 (σ : xS) : xcel h0 g σ 113 = .inl (g.1, 16, .inl (fun j => xJ (σ 113 j))) := rfl
theorem sa_114 (σ : xS) : xcel h0 g σ 114 = .inl (g.1, 16, .inl (fun j => xJ (σ 114 j))) := rfl
theorem sa_115 (σ : xS) : xcel h0 g σ 115 = .inl (g.1, 7, .inl (fun j => xJ (σ 115 j))) := rfl
theorem sa_116 (σ : xS) : xcel h0 g σ 116 = .inl (g.1, 64, .inl (fun j => xJ (σ 116 j))) := rfl
theorem so_117 (σ : xS) : xcel h0 g σ 117 = .inr (5, xobj h0 σ 117 5) := rfl
theorem so_118 (σ : xS) : xcel h0 g σ 118 = .inr (4, xobj h0 σ 118 4) := rfl
theorem sa_119 (σ : xS) : xcel h0 g σ 119 = .inl (g.1, 300, .inl (fun j => xJ (σ 119 j))) := rfl
theorem sa_120 (σ : xS) : xcel h0 g σ 120 = .inl (g.1, 300, .inl (fun j => xJ (σ 120 j))) := rfl
theorem sa_121 (σ : xS) : xcel h0 g σ 121 = .inl (g.1, 16, .inl (fun j => xJ (σ 121 j))) := rfl
theorem sa_122 (σ : xS) : xcel h0 g σ 122 = .inl (g.1, 16, .inl (fun j => xJ (σ 122 j))) := rfl
theorem sa_123 (σ : xS) : xcel h0 g σ 123 = .inl (g.1, 16, .inl (fun j => xJ (σ 123 j))) := rfl
theorem sa_124 (σ : xS) : xcel h0 g σ 124 = .inl (g.1, 7, .inl (fun j => xJ (σ 124 j))) := rfl
theorem sa_125 (σ : xS) : xcel h0 g σ 125 = .inl (g.1, 64, .inl (fun j => xJ (σ 125 j))) := rfl
theorem so_126 (σ : xS) : xcel h0 g σ 126 = .inr (9, xobj h0 σ 126 9) := rfl
theorem sa_127 (σ : xS) : xcel h0 g σ 127 = .inl (g.1, 60, .inl (fun j => xJ (σ 127 j))) := rfl
theorem so_128 (σ : xS) : xcel h0 g σ 128 = .inr (0, xobj h0 σ 128 0) := rfl
theorem sa_129 (σ : xS) : xcel h0 g σ 129 = .inl (g.1, 4, .inl (fun j => xJ (σ 129 j))) := rfl
theorem so_130 (σ : xS) : xcel h0 g σ 130 = .inr (7, xobj h0 σ 130 7) := rfl
theorem sa_131 (σ : xS) : xcel h0 g σ 131 = .inl (g.1, 100, .inl (fun j => xJ (σ 131 j))) := rfl
theorem sa_132 (σ : xS) : xcel h0 g σ 132 = .inl (g.1, 100, .inl (fun j => xJ (σ 132 j))) := rfl
theorem sa_133 (σ : xS) : xcel h0 g σ 133 = .inl (g.2.1, 100, .inl (fun j => xJ (σ 133 j))) := rfl
theorem sa_134 (σ : xS) : xcel h0 g σ 134 = .inl (g.1, 10, .inl (fun j => xJ (σ 134 j))) := rfl
theorem sa_135 (σ : xS) : xcel h0 g σ 135 = .inl (g.1, 10, .inl (fun j => xJ (σ 135 j))) := rfl
theorem so_136 (σ : xS) : xcel h0 g σ 136 = .inr (2, xobj h0 σ 136 2) := rfl
theorem sa_137 (σ : xS) : xcel h0 g σ 137 = .inl (g.1, 2, .inl (fun j => xJ (σ 137 j))) := rfl
theorem sg_138 (σ : xS) : xcel h0 g σ 138 = .inl (g.2.2.2.1, 2, .inr (.inr (.inr (.inr (fun j => some (h0 + xrow σ 138 j)))))) := rfl
theorem sa_139 (σ : xS) : xcel h0 g σ 139 = .inl (g.1, 0, .inl (fun j => xJ (σ 139 j))) := rfl
theorem sa_140 (σ : xS) : xcel h0 g σ 140 = .inl (g.1, 0, .inl (fun j => xJ (σ 140 j))) := rfl
theorem sa_141 (σ : xS) : xcel h0 g σ 141 = .inl (g.1, 2, .inl (fun j => xJ (σ 141 j))) := rfl
theorem sa_142 (σ : xS) : xcel h0 g σ 142 = .inl (g.1, 10, .inl (fun j => xJ (σ 142 j))) := rfl
theorem sa_143 (σ : xS) : xcel h0 g σ 143 = .inl (g.1, 10, .inl (fun j => xJ (σ 143 j))) := rfl
theorem sa_144 (σ : xS) : xcel h0 g σ 144 = .inl (g.1, 10, .inl (fun j => xJ (σ 144 j))) := rfl
theorem sa_145 (σ : xS) : xcel h0 g σ 145 = .inl (g.2.1, 10, .inl (fun j => xJ (σ 145 j))) := rfl
theorem so_146 (σ : xS) : xcel h0 g σ 146 = .inr (2, xobj h0 σ 146 2) := rfl
theorem sa_147 (σ : xS) : xcel h0 g σ 147 = .inl (g.1, 2, .inl (fun j => xJ (σ 147 j))) := rfl
theorem sg_148 (σ : xS) : xcel h0 g σ 148 = .inl (g.2.2.2.1, 2, .inr (.inr (.inr (.inr (fun j => some (h0 + xrow σ 148 j)))))) := rfl
theorem sa_149 (σ : xS) : xcel h0 g σ 149 = .inl (g.1, 0, .inl (fun j => xJ (σ 149 j))) := rfl
theorem sa_150 (σ : xS) : xcel h0 g σ 150 = .inl (g.1, 0, .inl (fun j => xJ (σ 150 j))) := rfl
theorem sa_151 (σ : xS) : xcel h0 g σ 151 = .inl (g.1, 2, .inl (fun j => xJ (σ 151 j))) := rfl
theorem sa_152 (σ : xS) : xcel h0 g σ 152 = .inl (g.1, 10, .inl (fun j => xJ (σ 152 j))) := rfl
theorem sa_153 (σ : xS) : xcel h0 g σ 153 = .inl (g.1, 10, .inl (fun j => xJ (σ 153 j))) := rfl
theorem sa_154 (σ : xS) : xcel h0 g σ 154 = .inl (g.1, 10, .inl (fun j => xJ (σ 154 j))) := rfl
theorem sa_155 (σ : xS) : xcel h0 g σ 155 = .inl (g.2.1, 10, .inl (fun j => xJ (σ 155 j))) := rfl
theorem so_156 (σ : xS) : xcel h0 g σ 156 = .inr (3, xobj h0 σ 156 3) := rfl
theorem sg_157 (σ : xS) : xcel h0 g σ 157 = .inl (g.2.2.2.2, 6, .inr (.inr (.inr (.inr (fun j => some (h0 + xrow σ 157 j)))))) := rfl
theorem so_158 (σ : xS) : xcel h0 g σ 158 = .inr (2, xobj h0 σ 158 2) := rfl
theorem sa_159 (σ : xS) : xcel h0 g σ 159 = .inl (g.1, 2, .inl (fun j => xJ (σ 159 j))) := rfl
theorem sg_160 (σ : xS) : xcel h0 g σ 160 = .inl (g.2.2.2.1, 2, .inr (.inr (.inr (.inr (fun j => some (h0 + xrow σ 160 j)))))) := rfl
theorem sa_161 (σ : xS) : xcel h0 g σ 161 = .inl (g.1, 0, .inl (fun j => xJ (σ 161 j))) := rfl
theorem sa_162 (σ : xS) : xcel h0 g σ 162 = .inl (g.1, 0, .inl (fun j => xJ (σ 162 j))) := rfl
theorem sa_163 (σ : xS) : xcel h0 g σ 163 = .inl (g.1, 2, .inl (fun j => xJ (σ 163 j))) := rfl
theorem sa_164 (σ : xS) : xcel h0 g σ 164 = .inl (g.1, 10, .inl (fun j => xJ (σ 164 j))) := rfl
theorem sa_165 (σ : xS) : xcel h0 g σ 165 = .inl (g.1, 10, .inl (fun j => xJ (σ 165 j))) := rfl
theorem sa_166 (σ : xS) : xcel h0 g σ 166 = .inl (g.1, 10, .inl (fun j => xJ (σ 166 j))) := rfl
theorem sa_167 (σ : xS) : xcel h0 g σ 167 = .inl (g.2.1, 10, .inl (fun j => xJ (σ 167 j))) := rfl
theorem so_168 (σ : xS) : xcel h0 g σ 168 = .inr (2, xobj h0 σ 168 2) := rfl
theorem sa_169 (σ : xS) : xcel h0 g σ 169 = .inl (g.1, 2, .inl (fun j => xJ (σ 169 j))) := rfl
theorem sg_170 (σ : xS) : xcel h0 g σ 170 = .inl (g.2.2.2.1, 2, .inr (.inr (.inr (.inr (fun j => some (h0 + xrow σ 170 j)))))) := rfl
theorem sa_171 (σ : xS) : xcel h0 g σ 171 = .inl (g.1, 0, .inl (fun j => xJ (σ 171 j))) := rfl
theorem sa_172 (σ : xS) : xcel h0 g σ 172 = .inl (g.1, 0, .inl (fun j => xJ (σ 172 j))) := rfl
theorem sa_173 (σ : xS) : xcel h0 g σ 173 = .inl (g.1, 2, .inl (fun j => xJ (σ 173 j))) := rfl
theorem sa_174 (σ : xS) : xcel h0 g σ 174 = .inl (g.1, 10, .inl (fun j => xJ (σ 174 j))) := rfl
theorem sa_175 (σ : xS) : xcel h0 g σ 175 = .inl (g.1, 10, .inl (fun j => xJ (σ 175 j))) := rfl
theorem sa_176 (σ : xS) : xcel h0 g σ 176 = .inl (g.1, 10, .inl (fun j => xJ (σ 176 j))) := rfl
theorem sa_177 (σ : xS) : xcel h0 g σ 177 = .inl (g.2.1, 10, .inl (fun j => xJ (σ 177 j))) := rfl
theorem so_178 (σ : xS) : xcel h0 g σ 178 = .inr (2, xobj h0 σ 178 2) := rfl
theorem sa_179 (σ : xS) : xcel h0 g σ 179 = .inl (g.1, 2, .inl (fun j => xJ (σ 179 j))) := rfl
theorem sg_180 (σ : xS) : xcel h0 g σ 180 = .inl (g.2.2.2.1, 2, .inr (.inr (.inr (.inr (fun j => some (h0 + xrow σ 180 j)))))) := rfl
theorem sa_181 (σ : xS) : xcel h0 g σ 181 = .inl (g.1, 0, .inl (fun j => xJ (σ 181 j))) := rfl
theorem sa_182 (σ : xS) : xcel h0 g σ 182 = .inl (g.1, 0, .inl (fun j => xJ (σ 182 j))) := rfl
theorem sa_183 (σ : xS) : xcel h0 g σ 183 = .inl (g.1, 2, .inl (fun j => xJ (σ 183 j))) := rfl
theorem sa_184 (σ : xS) : xcel h0 g σ 184 = .inl (g.1, 10, .inl (fun j => xJ (σ 184 j))) := rfl
theorem sa_185 (σ : xS) : xcel h0 g σ 185 = .inl (g.1, 10, .inl (fun j => xJ (σ 185 j))) := rfl
theorem sa_186 (σ : xS) : xcel h0 g σ 186 = .inl (g.1, 10, .inl (fun j => xJ (σ 186 j))) := rfl
theorem sa_187 (σ : xS) : xcel h0 g σ 187 = .inl (g.2.1, 10, .inl (fun j => xJ (σ 187 j))) := rfl
theorem so_188 (σ : xS) : xcel h0 g σ 188 = .inr (2, xobj h0 σ 188 2) := rfl
theorem sa_189 (σ : xS) : xcel h0 g σ 189 = .inl (g.1, 2, .inl (fun j => xJ (σ 189 j))) := rfl
theorem sg_190 (σ : xS) : xcel h0 g σ 190 = .inl (g.2.2.2.1, 2, .inr (.inr (.inr (.inr (fun j => some (h0 + xrow σ 190 j)))))) := rfl
theorem sa_191 (σ : xS) : xcel h0 g σ 191 = .inl (g.1, 0, .inl (fun j => xJ (σ 191 j))) := rfl
theorem sa_192 (σ : xS) : xcel h0 g σ 192 = .inl (g.1, 0, .inl (fun j => xJ (σ 192 j))) := rfl
theorem sa_193 (σ : xS) : xcel h0 g σ 193 = .inl (g.1, 2, .inl (fun j => xJ (σ 193 j))) := rfl
theorem sa_194 (σ : xS) : xcel h0 g σ 194 = .inl (g.1, 10, .inl (fun j => xJ (σ 194 j))) := rfl
theorem sa_195 (σ : xS) : xcel h0 g σ 195 = .inl (g.1, 10, .inl (fun j => xJ (σ 195 j))) := rfl
theorem sa_196 (σ : xS) : xcel h0 g σ 196 = .inl (g.1, 10, .inl (fun j => xJ (σ 196 j))) := rfl
theorem sa_197 (σ : xS) : xcel h0 g σ 197 = .inl (g.2.1, 10, .inl (fun j => xJ (σ 197 j))) := rfl
theorem so_198 (σ : xS) : xcel h0 g σ 198 = .inr (2, xobj h0 σ 198 2) := rfl
theorem sa_199 (σ : xS) : xcel h0 g σ 199 = .inl (g.1, 2, .inl (fun j => xJ (σ 199 j))) := rfl
theorem sg_200 (σ : xS) : xcel h0 g σ 200 = .inl (g.2.2.2.1, 2, .inr (.inr (.inr (.inr (fun j => some (h0 + xrow σ 200 j)))))) := rfl
theorem sa_201 (σ : xS) : xcel h0 g σ 201 = .inl (g.1, 0, .inl (fun j => xJ (σ 201 j))) := rfl
theorem sa_202 (σ : xS) : xcel h0 g σ 202 = .inl (g.1, 0, .inl (fun j => xJ (σ 202 j))) := rfl
theorem sa_203 (σ : xS) : xcel h0 g σ 203 = .inl (g.1, 2, .inl (fun j => xJ (σ 203 j))) := rfl
theorem sa_204 (σ : xS) : xcel h0 g σ 204 = .inl (g.1, 10, .inl (fun j => xJ (σ 204 j))) := rfl
theorem sa_205 (σ : xS) : xcel h0 g σ 205 = .inl (g.1, 10, .inl (fun j => xJ (σ 205 j))) := rfl
theorem sa_206 (σ : xS) : xcel h0 g σ 206 = .inl (g.1, 10, .inl (fun j => xJ (σ 206 j))) := rfl
theorem sa_207 (σ : xS) : xcel h0 g σ 207 = .inl (g.2.1, 10, .inl (fun j => xJ (σ 207 j))) := rfl
theorem so_208 (σ : xS) : xcel h0 g σ 208 = .inr (2, xobj h0 σ 208 2) := rfl
theorem sa_209 (σ : xS) : xcel h0 g σ 209 = .inl (g.1, 2, .inl (fun j => xJ (σ 209 j))) := rfl
theorem sg_210 (σ : xS) : xcel h0 g σ 210 = .inl (g.2.2.2.1, 2, .inr (.inr (.inr (.inr (fun j => some (h0 + xrow σ 210 j)))))) := rfl
theorem sa_211 (σ : xS) : xcel h0 g σ 211 = .inl (g.1, 0, .inl (fun j => xJ (σ 211 j))) := rfl
theorem sa_212 (σ : xS) : xcel h0 g σ 212 = .inl (g.1, 0, .inl (fun j => xJ (σ 212 j))) := rfl
theorem sa_213 (σ : xS) : xcel h0 g σ 213 = .inl (g.1, 2, .inl (fun j => xJ (σ 213 j))) := rfl
theorem sa_214 (σ : xS) : xcel h0 g σ 214 = .inl (g.1, 10, .inl (fun j => xJ (σ 214 j))) := rfl
theorem sa_215 (σ : xS) : xcel h0 g σ 215 = .inl (g.1, 10, .inl (fun j => xJ (σ 215 j))) := rfl
theorem sa_216 (σ : xS) : xcel h0 g σ 216 = .inl (g.1, 10, .inl (fun j => xJ (σ 216 j))) := rfl
theorem sa_217 (σ : xS) : xcel h0 g σ 217 = .inl (g.2.1, 10, .inl (fun j => xJ (σ 217 j))) := rfl
theorem sg_218 (σ : xS) : xcel h0 g σ 218 = .inl (g.2.2.2.1, 5, .inr (.inr (.inr (.inr (fun j => some (h0 + xrow σ 218 j)))))) := rfl
theorem sa_219 (σ : xS) : xcel h0 g σ 219 = .inl (g.1, 1, .inl (fun j => xJ (σ 219 j))) := rfl
theorem sa_220 (σ : xS) : xcel h0 g σ 220 = .inl (g.1, 1, .inl (fun j => xJ (σ 220 j))) := rfl
theorem sa_221 (σ : xS) : xcel h0 g σ 221 = .inl (g.1, 1, .inl (fun j => xJ (σ 221 j))) := rfl
theorem sa_222 (σ : xS) : xcel h0 g σ 222 = .inl (g.1, 1, .inl (fun j => xJ (σ 222 j))) := rfl
theorem sa_223 (σ : xS) : xcel h0 g σ 223 = .inl (g.1, 1, .inl (fun j => xJ (σ 223 j))) := rfl
theorem sa_224 (σ : xS) : xcel h0 g σ 224 = .inl (g.1, 5, .inl (fun j => xJ (σ 224 j))) := rfl
theorem sa_225 (σ : xS) : xcel h0 g σ 225 = .inl (g.1, 5, .inl (fun j => xJ (σ 225 j))) := rfl
theorem sa_226 (σ : xS) : xcel h0 g σ 226 = .inl (g.1, 100, .inl (fun j => xJ (σ 226 j))) := rfl
theorem sg_227 (σ : xS) : xcel h0 g σ 227 = .inl (g.2.2.2.1, 31, .inr (.inr (.inr (.inr (fun j => some (h0 + xrow σ 227 j)))))) := rfl
theorem sa_228 (σ : xS) : xcel h0 g σ 228 = .inl (g.1, 100, .inl (fun j => xJ (σ 228 j))) := rfl
theorem sa_229 (σ : xS) : xcel h0 g σ 229 = .inl (g.1, 100, .inl (fun j => xJ (σ 229 j))) := rfl
theorem sa_230 (σ : xS) : xcel h0 g σ 230 = .inl (g.1, 100, .inl (fun j => xJ (σ 230 j))) := rfl
theorem sa_231 (σ : xS) : xcel h0 g σ 231 = .inl (g.1, 100, .inl (fun j => xJ (σ 231 j))) := rfl
theorem sa_232 (σ : xS) : xcel h0 g σ 232 = .inl (g.1, 100, .inl (fun j => xJ (σ 232 j))) := rfl
theorem sa_233 (σ : xS) : xcel h0 g σ 233 = .inl (g.1, 100, .inl (fun j => xJ (σ 233 j))) := rfl
theorem sa_234 (σ : xS) : xcel h0 g σ 234 = .inl (g.1, 100, .inl (fun j => xJ (σ 234 j))) := rfl
theorem sa_235 (σ : xS) : xcel h0 g σ 235 = .inl (g.1, 100, .inl (fun j => xJ (σ 235 j))) := rfl
theorem sa_236 (σ : xS) : xcel h0 g σ 236 = .inl (g.1, 100, .inl (fun j => xJ (σ 236 j))) := rfl
theorem sa_237 (σ : xS) : xcel h0 g σ 237 = .inl (g.1, 100, .inl (fun j => xJ (σ 237 j))) := rfl
theorem sa_238 (σ : xS) : xcel h0 g σ 238 = .inl (g.1, 100, .inl (fun j => xJ (σ 238 j))) := rfl
theorem sa_239 (σ : xS) : xcel h0 g σ 239 = .inl (g.1, 100, .inl (fun j => xJ (σ 239 j))) := rfl
theorem sa_240 (σ : xS) : xcel h0 g σ 240 = .inl (g.1, 100, .inl (fun j => xJ (σ 240 j))) := rfl
theorem sa_241 (σ : xS) : xcel h0 g σ 241 = .inl (g.1, 100, .inl (fun j => xJ (σ 241 j))) := rfl
theorem sa_242 (σ : xS) : xcel h0 g σ 242 = .inl (g.1, 100, .inl (fun j => xJ (σ 242 j))) := rfl
theorem sa_243 (σ : xS) : xcel h0 g σ 243 = .inl (g.1, 100, .inl (fun j => xJ (σ 243 j))) := rfl
theorem sa_244 (σ : xS) : xcel h0 g σ 244 = .inl (g.1, 100, .inl (fun j => xJ (σ 244 j))) := rfl
theorem sa_245 (σ : xS) : xcel h0 g σ 245 = .inl (g.1, 100, .inl (fun j => xJ (σ 245 j))) := rfl
theorem sa_246 (σ : xS) : xcel h0 g σ 246 = .inl (g.1, 100, .inl (fun j => xJ (σ 246 j))) := rfl
theorem sa_247 (σ : xS) : xcel h0 g σ 247 = .inl (g.1, 100, .inl (fun j => xJ (σ 247 j))) := rfl
theorem sa_248 (σ : xS) : xcel h0 g σ 248 = .inl (g.1, 100, .inl (fun j => xJ (σ 248 j))) := rfl
theorem sa_249 (σ : xS) : xcel h0 g σ 249 = .inl (g.1, 100, .inl (fun j => xJ (σ 249 j))) := rfl
theorem sa_250 (σ : xS) : xcel h0 g σ 250 = .inl (g.1, 100, .inl (fun j => xJ (σ 250 j))) := rfl
theorem sa_251 (σ : xS) : xcel h0 g σ 251 = .inl (g.1, 100, .inl (fun j => xJ (σ 251 j))) := rfl
theorem sa_252 (σ : xS) : xcel h0 g σ 252 = .inl (g.1, 100, .inl (fun j => xJ (σ 252 j))) := rfl
theorem sa_253 (σ : xS) : xcel h0 g σ 253 = .inl (g.1, 100, .inl (fun j => xJ (σ 253 j))) := rfl
theorem sa_254 (σ : xS) : xcel h0 g σ 254 = .inl (g.1, 100, .inl (fun j => xJ (σ 254 j))) := rfl
theorem sa_255 (σ : xS) : xcel h0 g σ 255 = .inl (g.1, 100, .inl (fun j => xJ (σ 255 j))) := rfl
theorem sa_256 (σ : xS) : xcel h0 g σ 256 = .inl (g.1, 100, .inl (fun j => xJ (σ 256 j))) := rfl
theorem sa_257 (σ : xS) : xcel h0 g σ 257 = .inl (g.1, 100, .inl (fun j => xJ (σ 257 j))) := rfl
theorem sa_258 (σ : xS) : xcel h0 g σ 258 = .inl (g.1, 100, .inl (fun j => xJ (σ 258 j))) := rfl
theorem sa_259 (σ : xS) : xcel h0 g σ 259 = .inl (g.1, 100, .inl (fun j => xJ (σ 259 j))) := rfl
theorem sa_260 (σ : xS) : xcel h0 g σ 260 = .inl (g.1, 100, .inl (fun j => xJ (σ 260 j))) := rfl
theorem so_261 (σ : xS) : xcel h0 g σ 261 = .inr (1, xobj h0 σ 261 1) := rfl
theorem sa_262 (σ : xS) : xcel h0 g σ 262 = .inl (g.1, 10, .inl (fun j => xJ (σ 262 j))) := rfl
theorem sa_263 (σ : xS) : xcel h0 g σ 263 = .inl (g.1, 10, .inl (fun j => xJ (σ 263 j))) := rfl
theorem sa_264 (σ : xS) : xcel h0 g σ 264 = .inl (g.1, 100, .inl (fun j => xJ (σ 264 j))) := rfl
theorem sa_265 (σ : xS) : xcel h0 g σ 265 = .inl (g.1, 100, .inl (fun j => xJ (σ 265 j))) := rfl
theorem sa_266 (σ : xS) : xcel h0 g σ 266 = .inl (g.1, 10, .inl (fun j => xJ (σ 266 j))) := rfl
theorem sa_267 (σ : xS) : xcel h0 g σ 267 = .inl (g.1, 8, .inl (fun j => xJ (σ 267 j))) := rfl
theorem so_268 (σ : xS) : xcel h0 g σ 268 = .inr (11, xobj h0 σ 268 11) := rfl
theorem sa_269 (σ : xS) : xcel h0 g σ 269 = .inl (g.1, 39, .inl (fun j => xJ (σ 269 j))) := rfl
theorem sa_270 (σ : xS) : xcel h0 g σ 270 = .inl (g.1, 39, .inl (fun j => xJ (σ 270 j))) := rfl
theorem sa_271 (σ : xS) : xcel h0 g σ 271 = .inl (g.1, 39, .inl (fun j => xJ (σ 271 j))) := rfl
theorem sa_272 (σ : xS) : xcel h0 g σ 272 = .inl (g.1, 100, .inl (fun j => xJ (σ 272 j))) := rfl
theorem sa_273 (σ : xS) : xcel h0 g σ 273 = .inl (g.1, 4, .inl (fun j => xJ (σ 273 j))) := rfl
theorem sa_274 (σ : xS) : xcel h0 g σ 274 = .inl (g.1, 2, .inl (fun j => xJ (σ 274 j))) := rfl
theorem sa_275 (σ : xS) : xcel h0 g σ 275 = .inl (g.2.2.1, 120, .inl (fun j => xJ (σ 275 j))) := rfl
theorem sa_276 (σ : xS) : xcel h0 g σ 276 = .inl (g.2.2.1, 260, .inl (fun j => xJ (σ 276 j))) := rfl
theorem sa_277 (σ : xS) : xcel h0 g σ 277 = .inl (g.1, 260, .inl (fun j => xJ (σ 277 j))) := rfl
theorem sa_278 (σ : xS) : xcel h0 g σ 278 = .inl (g.1, 260, .inl (fun j => xJ (σ 278 j))) := rfl
theorem sa_279 (σ : xS) : xcel h0 g σ 279 = .inl (g.1, 16, .inl (fun j => xJ (σ 279 j))) := rfl
theorem sa_280 (σ : xS) : xcel h0 g σ 280 = .inl (g.1, 16, .inl (fun j => xJ (σ 280 j))) := rfl
theorem sa_281 (σ : xS) : xcel h0 g σ 281 = .inl (g.1, 16, .inl (fun j => xJ (σ 281 j))) := rfl
theorem sa_282 (σ : xS) : xcel h0 g σ 282 = .inl (g.1, 16, .inl (fun j => xJ (σ 282 j))) := rfl
theorem sa_283 (σ : xS) : xcel h0 g σ 283 = .inl (g.1, 260, .inl (fun j => xJ (σ 283 j))) := rfl
theorem sa_284 (σ : xS) : xcel h0 g σ 284 = .inl (g.1, 16, .inl (fun j => xJ (σ 284 j))) := rfl
theorem sa_285 (σ : xS) : xcel h0 g σ 285 = .inl (g.1, 16, .inl (fun j => xJ (σ 285 j))) := rfl
theorem sa_286 (σ : xS) : xcel h0 g σ 286 = .inl (g.1, 16, .inl (fun j => xJ (σ 286 j))) := rfl
theorem sa_287 (σ : xS) : xcel h0 g σ 287 = .inl (g.1, 16, .inl (fun j => xJ (σ 287 j))) := rfl
theorem sa_288 (σ : xS) : xcel h0 g σ 288 = .inl (g.1, 100, .inl (fun j => xJ (σ 288 j))) := rfl
theorem sa_289 (σ : xS) : xcel h0 g σ 289 = .inl (g.2.2.1, 60, .inl (fun j => xJ (σ 289 j))) := rfl
theorem sa_290 (σ : xS) : xcel h0 g σ 290 = .inl (g.1, 2, .inl (fun j => xJ (σ 290 j))) := rfl
theorem sa_291 (σ : xS) : xcel h0 g σ 291 = .inl (g.1, 2, .inl (fun j => xJ (σ 291 j))) := rfl
theorem sa_292 (σ : xS) : xcel h0 g σ 292 = .inl (g.1, 2, .inl (fun j => xJ (σ 292 j))) := rfl
theorem sa_293 (σ : xS) : xcel h0 g σ 293 = .inl (g.1, 260, .inl (fun j => xJ (σ 293 j))) := rfl
theorem sa_294 (σ : xS) : xcel h0 g σ 294 = .inl (g.1, 7, .inl (fun j => xJ (σ 294 j))) := rfl
theorem sa_295 (σ : xS) : xcel h0 g σ 295 = .inl (g.1, 100, .inl (fun j => xJ (σ 295 j))) := rfl
theorem sa_296 (σ : xS) : xcel h0 g σ 296 = .inl (g.1, 100, .inl (fun j => xJ (σ 296 j))) := rfl
theorem sa_297 (σ : xS) : xcel h0 g σ 297 = .inl (g.1, 10, .inl (fun j => xJ (σ 297 j))) := rfl
theorem sa_298 (σ : xS) : xcel h0 g σ 298 = .inl (g.1, 10, .inl (fun j => xJ (σ 298 j))) := rfl
theorem sa_299 (σ : xS) : xcel h0 g σ 299 = .inl (g.2.1, 100, .inl (fun j => xJ (σ 299 j))) := rfl
theorem sa_300 (σ : xS) : xcel h0 g σ 300 = .inl (g.2.1, 1024, .inl (fun j => xJ (σ 300 j))) := rfl
theorem sa_301 (σ : xS) : xcel h0 g σ 301 = .inl (g.1, 100, .inl (fun j => xJ (σ 301 j))) := rfl
theorem sa_302 (σ : xS) : xcel h0 g σ 302 = .inl (g.1, 3100, .inl (fun j => xJ (σ 302 j))) := rfl
theorem sa_303 (σ : xS) : xcel h0 g σ 303 = .inl (g.1, 3100, .inl (fun j => xJ (σ 303 j))) := rfl
theorem sa_304 (σ : xS) : xcel h0 g σ 304 = .inl (g.1, 10000, .inl (fun j => xJ (σ 304 j))) := rfl
theorem sa_305 (σ : xS) : xcel h0 g σ 305 = .inl (g.1, 100, .inl (fun j => xJ (σ 305 j))) := rfl
theorem sa_306 (σ : xS) : xcel h0 g σ 306 = .inl (g.1, 8, .inl (fun j => xJ (σ 306 j))) := rfl
theorem sa_307 (σ : xS) : xcel h0 g σ 307 = .inl (g.1, 8, .inl (fun j => xJ (σ 307 j))) := rfl
theorem sa_308 (σ : xS) : xcel h0 g σ 308 = .inl (g.1, 2, .inl (fun j => xJ (σ 308 j))) := rfl
theorem sa_309 (σ : xS) : xcel h0 g σ 309 = .inl (g.2.2.1, 120, .inl (fun j => xJ (σ 309 j))) := rfl
end X3
end
section
section X4
variable {p : Program} {l : Launch} {e : Env} {R : Room} {s : State} {m : MethodId} {args : Array Value} {below : List Frame} {meth : Method} {c : Code} {H : Heap} {locs : List Loc} {cells slots : Nat} {Q : State → Prop}
variable {cc : ByteArray} {pc : Nat} {ls : Array Slot} {rest st0 : List Value} {D : va_G} {g : xG} {T : Nat × Nat × Nat} {h0 : Nat} {σ : xS}
theorem x_any {z : Int32} (kk : ∀ v : Int, xR v → W p l e R s m args below meth c H locs cells slots Q (F0 m pc ls (.int (xJ v) :: rest))) : W p l e R s m args below meth c H locs cells slots Q (F0 m pc ls (.int z :: rest)) := by
  obtain ⟨v, hv, hr⟩ := xJ_ex z
  rw [hv]; exact kk v hr
theorem x_iand0 (hx : p.tables.exec = Jvm.exec) (hb : c.code = cc) {a b : Int} (ha : a = 0) (hdg : decode cc pc = .ok (.iand, 1)) (k : W p l e R s m args below meth c H locs cells slots Q (F0 m (pc + 1) ls (.int (xJ 0) :: rest))) : W p l e R s m args below meth c H locs cells slots Q (F0 m pc ls (.int (xJ b) :: .int (xJ a) :: rest)) := by
  subst ha
  exact lv_iand hx hb hdg (by rw [show xJ 0 &&& xJ b = xJ 0 from by rw [xJ_0]; exact Int32.zero_and]; exact k)
theorem x_ishr0 (hx : p.tables.exec = Jvm.exec) (hb : c.code = cc) {a b : Int} (ha : a = 0) (hdg : decode cc pc = .ok (.ishr, 1)) (k : W p l e R s m args below meth c H locs cells slots Q (F0 m (pc + 1) ls (.int (xJ 0) :: rest))) : W p l e R s m args below meth c H locs cells slots Q (F0 m pc ls (.int (xJ b) :: .int (xJ a) :: rest)) := by
  subst ha
  exact lv_ishr hx hb hdg (by rw [show xJ 0 >>> (xJ b &&& 31) = xJ 0 from by rw [xJ_0]; exact Int32.zero_shiftRight]; exact k)
theorem xnb (v : Int) : ∃ y : Int, narrow .byte (.int (xJ v)) = .int (xJ y) ∧ xR y := by
  obtain ⟨y, h, hr⟩ := xJ_ex ((xJ v).toInt8.toInt32)
  exact ⟨y, congrArg Value.int h, hr⟩
theorem xwx_in : ∀ j : Nat, -1 ≤ xwx j ∧ xwx j ≤ 1 := fun j => by
  unfold xwx
  match j with
  | 0 | 1 | 2 | 3 | 4 | 5 | 6 | 7 => decide
  | n + 8 => simp
theorem xwy_in : ∀ j : Nat, -1 ≤ xwy j ∧ xwy j ≤ 1 := fun j => by
  unfold xwy
  match j with
  | 0 | 1 | 2 | 3 | 4 | 5 | 6 | 7 => decide
  | n + 8 => simp
theorem xlt_in : ∀ j : Nat, -1 ≤ xlt j ∧ xlt j ≤ 119 := fun j => by
  unfold xlt
  match j with
  | 0 | 1 | 2 | 3 | 4 | 5 | 6 => decide
  | n + 7 => simp
theorem x_aaldR {k n r : Nat} {a : Int} {cA : ClassId} {t0 : Nat} {ty : FieldType} (hx : p.tables.exec = Jvm.exec) (hb : c.code = cc) (hE : xE D g T h0 s) (hW : xW D g h0 s H locs σ) (hk : k < 310) (ht : (xtys g)[t0]? = some (cA, ty)) (hty : ty.isReference = true) (hcel : xcel h0 g σ k = .inl (cA, n, .inr (.inr (.inr (.inr (fun j => some (h0 + xrow σ k j))))))) (hi : 0 ≤ a ∧ a < (n : Int)) (hnn : n ≤ 2147483647) (hrow : xrow σ k a.toNat = r) (hdg : decode cc pc = .ok (.aaload, 1))
    (kk : W p l e R s m args below meth c H locs cells slots Q (F0 m (pc + 1) ls (.ref (h0 + r) :: rest))) : W p l e R s m args below meth c H locs cells slots Q (F0 m pc ls (.int (xJ a) :: .ref (h0 + k) :: rest)) := by
  obtain ⟨h1, h2⟩ := hi
  have hR : xR a := by omega
  have h9 := hW.1 k (Or.inl hk)
  rw [hcel] at h9
  have h9 : H[h0 + k]? = some (arrV cA n (fun j => .ref (h0 + xrow σ k j))) := h9
  have hlt : a.toNat < n := by omega
  subst hrow
  exact W.aald (v := .ref (h0 + xrow σ k a.toNat)) hx hb h9 ((hE.1.2 t0 _ ht).1 n _) hty (fun q => by cases q) (by rw [arrV_size]; exact xJ_nin hR h1 h2) (by rw [xJ_cl hR, arrV_read _ _ hlt]) rfl rfl hdg kk
/-- rows of ints, by their places -/
def xAr (σ : xS) (r : Nat) : Prop := (r < 310 ∧ (xtab.getD r (9, 0)).1 = 0) ∨ (310 ≤ r ∧ r < 999990 ∧ σ 999997 r = 1)
theorem xAr.f {τ : xS} {r : Nat} (h : xAr σ r) (e : τ 999997 = σ 999997) : xAr τ r := by unfold xAr at h ⊢; rw [e]; exact h
theorem xAr.v {r : Nat} (h : xAr σ r) : xV σ r := by
  rcases h with h | h
  · exact Or.inl h.1
  · exact Or.inr ⟨h.2.1, h.2.2⟩
theorem xAr.cel {r : Nat} (h : xAr σ r) : ∃ n : Nat, xcel h0 g σ r = .inl (g.1, n, .inl (fun j => xJ (σ r j))) := by
  rcases h with ⟨h1, h2⟩ | h
  · obtain ⟨q, e⟩ : ∃ q, xtab.getD r (9, 0) = (0, q) := ⟨_, Prod.ext h2 rfl⟩
    exact ⟨q, by unfold xcel; rw [if_pos h1, e]; rfl⟩
  · exact ⟨(σ 999998 r).toNat, by unfold xcel; rw [if_neg (by omega)]; rfl⟩
theorem x_aastR {k n : Nat} {a v : Int} (hx : p.tables.exec = Jvm.exec) (hb : c.code = cc) (hE : xE D g T h0 s) (hW : xW D g h0 s H locs σ) (hk : k < 310) (hcel : ∀ σ : xS, xcel h0 g σ k = .inl (g.2.2.2.1, n, .inr (.inr (.inr (.inr (fun j => some (h0 + xrow σ k j))))))) (hrow : ∀ (σ : xS) (j : Nat), xrow σ k j = (σ k j).toNat) (hi : 0 ≤ a ∧ a < (n : Int)) (hnn : n ≤ 2147483647) (hv : xAr σ v.toNat) (hR : xR v) (hdg : decode cc pc = .ok (.aastore, 1))
    (kk : ∀ (H1 : Heap) (locs1 : List Loc) (τ : xS), τ = xU σ k a v → xW D g h0 s H1 locs1 τ → W p l e R s m args below meth c H1 locs1 cells slots Q (F0 m (pc + 1) ls rest)) : W p l e R s m args below meth c H locs cells slots Q (F0 m pc ls (.ref (h0 + v.toNat) :: .int (xJ a) :: .ref (h0 + k) :: rest)) := by
  obtain ⟨h1, h2⟩ := hi
  have hRa : xR a := by omega
  have h9 := hW.1 k (Or.inl hk)
  rw [hcel σ] at h9
  have h9 : H[h0 + k]? = some (arrV g.2.2.2.1 n (fun j => .ref (h0 + xrow σ k j))) := h9
  obtain ⟨n2, hc2⟩ := hv.cel (h0 := h0) (g := g)
  have h8 := hW.1 _ hv.v
  rw [hc2] at h8
  have h8 : H[h0 + v.toNat]? = some (arrV g.1 n2 (fun j => .int (xJ (σ v.toNat j)))) := h8
  obtain ⟨kA, hkA, hkind⟩ := hE.2.1.2
  obtain ⟨-, kI, hkI, cm, hkk⟩ := (hE.1.2 0 _ rfl).1 0 (fun _ => .null)
  have hlt : a.toNat < n := by omega
  refine W.aast hx hb h9 (fun q => fun z => by cases z) (fun q => by cases q) hkA hkind rfl hkI ⟨fun q => (xJ_nin hRa h1 h2) (Or.inl q), by rw [arrV_size, xJ_cl hRa]; exact hlt⟩ h8 (fun q => fun z => by cases z) hkI (va_asg _ _) rfl rfl hdg (fun H1 e1 e2 e3 => ?_)
  refine kk H1 _ _ rfl (xW_put hW hk e2 e3 (fun k2 h => xU_k σ a v h) (xRR_U hW.2.1 hR) ?_)
  rw [hcel]
  show H1[h0 + k]? = some (arrV g.2.2.2.1 n (fun j => .ref (h0 + xrow (xU σ k a v) k j)))
  rw [e1, arrV_store, xJ_cl hRa]
  congr 2
  funext q
  rw [hrow]
  by_cases hq : q = a.toNat
  · subst hq
    simp [updV, Int.toNat_of_nonneg h1, xU_s]
  · have : (q : Int) ≠ a := by omega
    simp [updV, hq, xU_j σ v this, hrow]
end X4
theorem xrow_day {d : Nat} (h : d = 136 ∨ d = 146 ∨ d = 158 ∨ d = 168 ∨ d = 178 ∨ d = 188 ∨ d = 198 ∨ d = 208) (σ : xS) (j : Nat) : xrow σ (d + 2) j = (σ (d + 2) j).toNat := by
  rcases h with rfl | rfl | rfl | rfl | rfl | rfl | rfl | rfl <;> rfl
theorem xU_c {σ : xS} {k : Nat} {j c : Int} (h : σ k = fun _ => c) : xU σ k j c k = fun _ => c := by
  funext q
  unfold xU
  split
  · rfl
  · rw [h]
def xDay (d : Nat) : Prop := d = 136 ∨ d = 146 ∨ d = 158 ∨ d = 168 ∨ d = 178 ∨ d = 188 ∨ d = 198 ∨ d = 208
section X5
variable (h0 : Nat) (g : xG) {d : Nat}
theorem so_day0 (h : xDay d) (σ : xS) : xcel h0 g σ d = .inr (2, xobj h0 σ d 2) := by
  rcases h with rfl | rfl | rfl | rfl | rfl | rfl | rfl | rfl <;> rfl
theorem sa_day1 (h : xDay d) (σ : xS) : xcel h0 g σ (d + 1) = .inl (g.1, 2, .inl (fun j => xJ (σ (d + 1) j))) := by
  rcases h with rfl | rfl | rfl | rfl | rfl | rfl | rfl | rfl <;> rfl
theorem sg_day2 (h : xDay d) (σ : xS) : xcel h0 g σ (d + 2) = .inl (g.2.2.2.1, 2, .inr (.inr (.inr (.inr (fun j => some (h0 + xrow σ (d + 2) j)))))) := by
  rcases h with rfl | rfl | rfl | rfl | rfl | rfl | rfl | rfl <;> rfl
theorem sa_day3 (h : xDay d) (σ : xS) : xcel h0 g σ (d + 3) = .inl (g.1, 0, .inl (fun j => xJ (σ (d + 3) j))) := by
  rcases h with rfl | rfl | rfl | rfl | rfl | rfl | rfl | rfl <;> rfl
theorem sa_day4 (h : xDay d) (σ : xS) : xcel h0 g σ (d + 4) = .inl (g.1, 0, .inl (fun j => xJ (σ (d + 4) j))) := by
  rcases h with rfl | rfl | rfl | rfl | rfl | rfl | rfl | rfl <;> rfl
theorem sa_day5 (h : xDay d) (σ : xS) : xcel h0 g σ (d + 5) = .inl (g.1, 2, .inl (fun j => xJ (σ (d + 5) j))) := by
  rcases h with rfl | rfl | rfl | rfl | rfl | rfl | rfl | rfl <;> rfl
theorem sa_day6 (h : xDay d) (σ : xS) : xcel h0 g σ (d + 6) = .inl (g.1, 10, .inl (fun j => xJ (σ (d + 6) j))) := by
  rcases h with rfl | rfl | rfl | rfl | rfl | rfl | rfl | rfl <;> rfl
theorem sa_day7 (h : xDay d) (σ : xS) : xcel h0 g σ (d + 7) = .inl (g.1, 10, .inl (fun j => xJ (σ (d + 7) j))) := by
  rcases h with rfl | rfl | rfl | rfl | rfl | rfl | rfl | rfl <;> rfl
theorem sa_day8 (h : xDay d) (σ : xS) : xcel h0 g σ (d + 8) = .inl (g.1, 10, .inl (fun j => xJ (σ (d + 8) j))) := by
  rcases h with rfl | rfl | rfl | rfl | rfl | rfl | rfl | rfl <;> rfl
theorem sa_day9 (h : xDay d) (σ : xS) : xcel h0 g σ (d + 9) = .inl (g.2.1, 10, .inl (fun j => xJ (σ (d + 9) j))) := by
  rcases h with rfl | rfl | rfl | rfl | rfl | rfl | rfl | rfl <;> rfl
end X5
end
section
theorem xin {ws : List Cond} (ps : List Nat) (h : ws.map some = ps.map (fun i => lw_tbl[i]?)) (hg : ws.all goodWord = true) : ∀ w ∈ ws, w ∈ xTB := fun w hw => by
  have h1 : some w ∈ ps.map (fun i => lw_tbl[i]?) := by rw [← h]; exact List.mem_map.mpr ⟨w, hw, rfl⟩
  obtain ⟨i, -, hi⟩ := List.mem_map.mp h1
  exact List.mem_filter.mpr ⟨List.mem_of_getElem? hi, List.all_eq_true.mp hg w hw⟩
theorem cls_X4 : xCls RX4 TX4 9 4 tyX4 := ⟨xin [266, 268, 270, 272, 274, 276, 278, 280, 282] (by decide +kernel) (by decide +kernel), rfl, tyX4_ok, nmX4⟩
theorem cls_X6 : xCls RX6 TX6 5 6 tyX6 := ⟨xin [231, 233, 235, 237, 239] (by decide +kernel) (by decide +kernel), rfl, tyX6_ok, nmX6⟩
theorem cf_X4_tellMinute : xCF yX4_tellMinute cX4_tellMinute 3 none 1 := ⟨xq 794 (by decide +kernel) rfl, xq 171 (by decide +kernel) rfl, by decide +kernel⟩
theorem cf_X6_isOpen : xCF yX6_isOpen cX6_isOpen 3 (some .boolean) 1 := ⟨xq 616 (by decide +kernel) rfl, xq 170 (by decide +kernel) rfl, by decide +kernel⟩
theorem cf_X6_kindAt : xCF yX6_kindAt cX6_kindAt 2 (some .int) 1 := ⟨xq 620 (by decide +kernel) rfl, xq 170 (by decide +kernel) rfl, by decide +kernel⟩
theorem cf_X6_spotAt : xCF yX6_spotAt cX6_spotAt 2 (some .int) 2 := ⟨xq 709 (by decide +kernel) rfl, xq 170 (by decide +kernel) rfl, by decide +kernel⟩
theorem wq9 : Cond.selects yX6_isOpen.cls yX6_isOpen yX6_isOpen ∈ xTB := xq 9 (by decide +kernel) rfl
theorem wq10 : Cond.selects yX6_kindAt.cls yX6_kindAt yX6_kindAt ∈ xTB := xq 10 (by decide +kernel) rfl
theorem wq40 : Cond.selects yX4_tellMinute.cls yX4_tellMinute yX4_tellMinute ∈ xTB := xq 40 (by decide +kernel) rfl
theorem wq226 : Cond.fieldLink "ShadowCourt$Market" (9) "ShadowCourt$Market" "kinds" "[I" ∈ xTB := xq 226 (by decide +kernel) rfl
theorem wq261 : Cond.fieldLink "ShadowCourt$Law" (31) "ShadowCourt$Law" "clauses" "I" ∈ xTB := xq 261 (by decide +kernel) rfl
theorem wq264 : Cond.fieldLink "ShadowCourt$Law" (37) "ShadowCourt$Law" "told" "[I" ∈ xTB := xq 264 (by decide +kernel) rfl
theorem wq615 : Cond.instanceMethod yX6_isOpen ∈ xTB := xq 615 (by decide +kernel) rfl
theorem wq617 : Cond.methodLink "ShadowCourt$Market" (36) yX6_kindAt ∈ xTB := xq 617 (by decide +kernel) rfl
theorem wq619 : Cond.instanceMethod yX6_kindAt ∈ xTB := xq 619 (by decide +kernel) rfl
theorem wq707 : Cond.methodLink "ShadowCourt$Market" (40) yX6_spotAt ∈ xTB := xq 707 (by decide +kernel) rfl
theorem wq708 : Cond.static yX6_spotAt ∈ xTB := xq 708 (by decide +kernel) rfl
theorem wq710 : Cond.methodLink "ShadowCourt$Market" (44) yX6_isOpen ∈ xTB := xq 710 (by decide +kernel) rfl
theorem wq793 : Cond.instanceMethod yX4_tellMinute ∈ xTB := xq 793 (by decide +kernel) rfl
theorem wq821 : Cond.methodLink "ShadowCourt$Law" (49) yX4_tellMinute ∈ xTB := xq 821 (by decide +kernel) rfl
theorem wn786 : Cond.fieldLinkNest "ShadowCourt$Market" (30) "ShadowCourt" "WAY_X" "[I" "ShadowCourt" ∈ xNL := xn 786 (by decide +kernel) rfl
theorem wn788 : Cond.fieldLinkNest "ShadowCourt$Market" (33) "ShadowCourt" "WAY_Y" "[I" "ShadowCourt" ∈ xNL := xn 788 (by decide +kernel) rfl
theorem dX4_isNight_0 : decode cX4_isNight 0 = .ok (.aload_n 0, 1) := by decide +kernel
theorem dX4_isNight_1 : decode cX4_isNight 1 = .ok (.iload_n 1, 1) := by decide +kernel
theorem dX4_isNight_2 : decode cX4_isNight 2 = .ok (.invokevirtual 49, 3) := by decide +kernel
theorem dX4_isNight_5 : decode cX4_isNight 5 = .ok (.iconst 0, 1) := by decide +kernel
theorem dX4_isNight_6 : decode cX4_isNight 6 = .ok (.istore_n 2, 1) := by decide +kernel
theorem dX4_isNight_7 : decode cX4_isNight 7 = .ok (.iload_n 2, 1) := by decide +kernel
theorem dX4_isNight_8 : decode cX4_isNight 8 = .ok (.aload_n 0, 1) := by decide +kernel
theorem dX4_isNight_9 : decode cX4_isNight 9 = .ok (.getfield 31, 3) := by decide +kernel
theorem dX4_isNight_12 : decode cX4_isNight 12 = .ok (.if_icmp .ge 35, 3) := by decide +kernel
theorem dX4_isNight_15 : decode cX4_isNight 15 = .ok (.aload_n 0, 1) := by decide +kernel
theorem dX4_isNight_16 : decode cX4_isNight 16 = .ok (.getfield 22, 3) := by decide +kernel
theorem dX4_isNight_19 : decode cX4_isNight 19 = .ok (.iload_n 2, 1) := by decide +kernel
theorem dX4_isNight_20 : decode cX4_isNight 20 = .ok (.iaload, 1) := by decide +kernel
theorem dX4_isNight_21 : decode cX4_isNight 21 = .ok (.bipush 110, 2) := by decide +kernel
theorem dX4_isNight_23 : decode cX4_isNight 23 = .ok (.if_icmp .ne 18, 3) := by decide +kernel
theorem dX4_isNight_26 : decode cX4_isNight 26 = .ok (.aload_n 0, 1) := by decide +kernel
theorem dX4_isNight_27 : decode cX4_isNight 27 = .ok (.aload_n 0, 1) := by decide +kernel
theorem dX4_isNight_28 : decode cX4_isNight 28 = .ok (.getfield 28, 3) := by decide +kernel
theorem dX4_isNight_31 : decode cX4_isNight 31 = .ok (.iload_n 2, 1) := by decide +kernel
theorem dX4_isNight_32 : decode cX4_isNight 32 = .ok (.iaload, 1) := by decide +kernel
theorem dX4_isNight_33 : decode cX4_isNight 33 = .ok (.invokevirtual 53, 3) := by decide +kernel
theorem dX4_isNight_36 : decode cX4_isNight 36 = .ok (.ifCond .eq 5, 3) := by decide +kernel
theorem dX4_isNight_39 : decode cX4_isNight 39 = .ok (.iconst 1, 1) := by decide +kernel
theorem dX4_isNight_40 : decode cX4_isNight 40 = .ok (.ireturn, 1) := by decide +kernel
theorem dX4_isNight_41 : decode cX4_isNight 41 = .ok (.iinc 2 1, 3) := by decide +kernel
theorem dX4_isNight_44 : decode cX4_isNight 44 = .ok (.goto (-37), 3) := by decide +kernel
theorem dX4_isNight_47 : decode cX4_isNight 47 = .ok (.iconst 0, 1) := by decide +kernel
theorem dX4_isNight_48 : decode cX4_isNight 48 = .ok (.ireturn, 1) := by decide +kernel
theorem dX4_tellMinute_0 : decode cX4_tellMinute 0 = .ok (.iconst 2, 1) := by decide +kernel
theorem dX4_tellMinute_1 : decode cX4_tellMinute 1 = .ok (.istore_n 2, 1) := by decide +kernel
theorem dX4_tellMinute_2 : decode cX4_tellMinute 2 = .ok (.iload_n 2, 1) := by decide +kernel
theorem dX4_tellMinute_3 : decode cX4_tellMinute 3 = .ok (.aload_n 0, 1) := by decide +kernel
theorem dX4_tellMinute_4 : decode cX4_tellMinute 4 = .ok (.getfield 37, 3) := by decide +kernel
theorem dX4_tellMinute_7 : decode cX4_tellMinute 7 = .ok (.arraylength, 1) := by decide +kernel
theorem dX4_tellMinute_8 : decode cX4_tellMinute 8 = .ok (.if_icmp .ge 16, 3) := by decide +kernel
theorem dX4_tellMinute_11 : decode cX4_tellMinute 11 = .ok (.aload_n 0, 1) := by decide +kernel
theorem dX4_tellMinute_12 : decode cX4_tellMinute 12 = .ok (.getfield 37, 3) := by decide +kernel
theorem dX4_tellMinute_15 : decode cX4_tellMinute 15 = .ok (.iload_n 2, 1) := by decide +kernel
theorem dX4_tellMinute_16 : decode cX4_tellMinute 16 = .ok (.iconst 0, 1) := by decide +kernel
theorem dX4_tellMinute_17 : decode cX4_tellMinute 17 = .ok (.iastore, 1) := by decide +kernel
theorem dX4_tellMinute_18 : decode cX4_tellMinute 18 = .ok (.iinc 2 1, 3) := by decide +kernel
theorem dX4_tellMinute_21 : decode cX4_tellMinute 21 = .ok (.goto (-19), 3) := by decide +kernel
theorem dX4_tellMinute_24 : decode cX4_tellMinute 24 = .ok (.aload_n 0, 1) := by decide +kernel
theorem dX4_tellMinute_25 : decode cX4_tellMinute 25 = .ok (.getfield 37, 3) := by decide +kernel
theorem dX4_tellMinute_28 : decode cX4_tellMinute 28 = .ok (.iconst 0, 1) := by decide +kernel
theorem dX4_tellMinute_29 : decode cX4_tellMinute 29 = .ok (.iload_n 1, 1) := by decide +kernel
theorem dX4_tellMinute_30 : decode cX4_tellMinute 30 = .ok (.iastore, 1) := by decide +kernel
theorem dX4_tellMinute_31 : decode cX4_tellMinute 31 = .ok (.aload_n 0, 1) := by decide +kernel
theorem dX4_tellMinute_32 : decode cX4_tellMinute 32 = .ok (.getfield 37, 3) := by decide +kernel
theorem dX4_tellMinute_35 : decode cX4_tellMinute 35 = .ok (.iconst 1, 1) := by decide +kernel
theorem dX4_tellMinute_36 : decode cX4_tellMinute 36 = .ok (.iload_n 1, 1) := by decide +kernel
theorem dX4_tellMinute_37 : decode cX4_tellMinute 37 = .ok (.bipush 60, 2) := by decide +kernel
theorem dX4_tellMinute_39 : decode cX4_tellMinute 39 = .ok (.idiv, 1) := by decide +kernel
theorem dX4_tellMinute_40 : decode cX4_tellMinute 40 = .ok (.bipush 24, 2) := by decide +kernel
theorem dX4_tellMinute_42 : decode cX4_tellMinute 42 = .ok (.irem, 1) := by decide +kernel
theorem dX4_tellMinute_43 : decode cX4_tellMinute 43 = .ok (.iastore, 1) := by decide +kernel
theorem dX4_tellMinute_44 : decode cX4_tellMinute 44 = .ok (.return_, 1) := by decide +kernel
theorem dX4_worthOf_0 : decode cX4_worthOf 0 = .ok (.iconst 0, 1) := by decide +kernel
theorem dX4_worthOf_1 : decode cX4_worthOf 1 = .ok (.istore_n 3, 1) := by decide +kernel
theorem dX4_worthOf_2 : decode cX4_worthOf 2 = .ok (.iload_n 3, 1) := by decide +kernel
theorem dX4_worthOf_3 : decode cX4_worthOf 3 = .ok (.aload_n 0, 1) := by decide +kernel
theorem dX4_worthOf_4 : decode cX4_worthOf 4 = .ok (.getfield 31, 3) := by decide +kernel
theorem dX4_worthOf_7 : decode cX4_worthOf 7 = .ok (.if_icmp .ge 51, 3) := by decide +kernel
theorem dX4_worthOf_10 : decode cX4_worthOf 10 = .ok (.aload_n 0, 1) := by decide +kernel
theorem dX4_worthOf_11 : decode cX4_worthOf 11 = .ok (.getfield 22, 3) := by decide +kernel
theorem dX4_worthOf_14 : decode cX4_worthOf 14 = .ok (.iload_n 3, 1) := by decide +kernel
theorem dX4_worthOf_15 : decode cX4_worthOf 15 = .ok (.iaload, 1) := by decide +kernel
theorem dX4_worthOf_16 : decode cX4_worthOf 16 = .ok (.iload_n 1, 1) := by decide +kernel
theorem dX4_worthOf_17 : decode cX4_worthOf 17 = .ok (.if_icmp .ne 35, 3) := by decide +kernel
theorem dX4_worthOf_20 : decode cX4_worthOf 20 = .ok (.aload_n 0, 1) := by decide +kernel
theorem dX4_worthOf_21 : decode cX4_worthOf 21 = .ok (.aload_n 0, 1) := by decide +kernel
theorem dX4_worthOf_22 : decode cX4_worthOf 22 = .ok (.getfield 28, 3) := by decide +kernel
theorem dX4_worthOf_25 : decode cX4_worthOf 25 = .ok (.iload_n 3, 1) := by decide +kernel
theorem dX4_worthOf_26 : decode cX4_worthOf 26 = .ok (.iaload, 1) := by decide +kernel
theorem dX4_worthOf_27 : decode cX4_worthOf 27 = .ok (.invokevirtual 53, 3) := by decide +kernel
theorem dX4_worthOf_30 : decode cX4_worthOf 30 = .ok (.ifCond .eq 22, 3) := by decide +kernel
theorem dX4_worthOf_33 : decode cX4_worthOf 33 = .ok (.iconst 0, 1) := by decide +kernel
theorem dX4_worthOf_34 : decode cX4_worthOf 34 = .ok (.iload_n 2, 1) := by decide +kernel
theorem dX4_worthOf_35 : decode cX4_worthOf 35 = .ok (.aload_n 0, 1) := by decide +kernel
theorem dX4_worthOf_36 : decode cX4_worthOf 36 = .ok (.aload_n 0, 1) := by decide +kernel
theorem dX4_worthOf_37 : decode cX4_worthOf 37 = .ok (.getfield 25, 3) := by decide +kernel
theorem dX4_worthOf_40 : decode cX4_worthOf 40 = .ok (.iload_n 3, 1) := by decide +kernel
theorem dX4_worthOf_41 : decode cX4_worthOf 41 = .ok (.iaload, 1) := by decide +kernel
theorem dX4_worthOf_42 : decode cX4_worthOf 42 = .ok (.invokevirtual 53, 3) := by decide +kernel
theorem dX4_worthOf_45 : decode cX4_worthOf 45 = .ok (.invokestatic 57, 3) := by decide +kernel
theorem dX4_worthOf_48 : decode cX4_worthOf 48 = .ok (.invokestatic 63, 3) := by decide +kernel
theorem dX4_worthOf_51 : decode cX4_worthOf 51 = .ok (.ireturn, 1) := by decide +kernel
theorem dX4_worthOf_52 : decode cX4_worthOf 52 = .ok (.iinc 3 1, 3) := by decide +kernel
theorem dX4_worthOf_55 : decode cX4_worthOf 55 = .ok (.goto (-53), 3) := by decide +kernel
theorem dX4_worthOf_58 : decode cX4_worthOf 58 = .ok (.iconst 0, 1) := by decide +kernel
theorem dX4_worthOf_59 : decode cX4_worthOf 59 = .ok (.ireturn, 1) := by decide +kernel
theorem dX6_beside_0 : decode cX6_beside 0 = .ok (.iload_n 0, 1) := by decide +kernel
theorem dX6_beside_1 : decode cX6_beside 1 = .ok (.ifCond .lt 19, 3) := by decide +kernel
theorem dX6_beside_4 : decode cX6_beside 4 = .ok (.iload_n 0, 1) := by decide +kernel
theorem dX6_beside_5 : decode cX6_beside 5 = .ok (.bipush 100, 2) := by decide +kernel
theorem dX6_beside_7 : decode cX6_beside 7 = .ok (.if_icmp .ge 13, 3) := by decide +kernel
theorem dX6_beside_10 : decode cX6_beside 10 = .ok (.iload_n 1, 1) := by decide +kernel
theorem dX6_beside_11 : decode cX6_beside 11 = .ok (.ifCond .lt 9, 3) := by decide +kernel
theorem dX6_beside_14 : decode cX6_beside 14 = .ok (.iload_n 1, 1) := by decide +kernel
theorem dX6_beside_15 : decode cX6_beside 15 = .ok (.bipush 8, 2) := by decide +kernel
theorem dX6_beside_17 : decode cX6_beside 17 = .ok (.if_icmp .lt 5, 3) := by decide +kernel
theorem dX6_beside_20 : decode cX6_beside 20 = .ok (.iconst (-1), 1) := by decide +kernel
theorem dX6_beside_21 : decode cX6_beside 21 = .ok (.ireturn, 1) := by decide +kernel
theorem dX6_beside_22 : decode cX6_beside 22 = .ok (.iload_n 0, 1) := by decide +kernel
theorem dX6_beside_23 : decode cX6_beside 23 = .ok (.bipush 10, 2) := by decide +kernel
theorem dX6_beside_25 : decode cX6_beside 25 = .ok (.irem, 1) := by decide +kernel
theorem dX6_beside_26 : decode cX6_beside 26 = .ok (.getstatic 30, 3) := by decide +kernel
theorem dX6_beside_29 : decode cX6_beside 29 = .ok (.iload_n 1, 1) := by decide +kernel
theorem dX6_beside_30 : decode cX6_beside 30 = .ok (.iaload, 1) := by decide +kernel
theorem dX6_beside_31 : decode cX6_beside 31 = .ok (.iadd, 1) := by decide +kernel
theorem dX6_beside_32 : decode cX6_beside 32 = .ok (.istore_n 2, 1) := by decide +kernel
theorem dX6_beside_33 : decode cX6_beside 33 = .ok (.iload_n 0, 1) := by decide +kernel
theorem dX6_beside_34 : decode cX6_beside 34 = .ok (.bipush 10, 2) := by decide +kernel
theorem dX6_beside_36 : decode cX6_beside 36 = .ok (.idiv, 1) := by decide +kernel
theorem dX6_beside_37 : decode cX6_beside 37 = .ok (.getstatic 33, 3) := by decide +kernel
theorem dX6_beside_40 : decode cX6_beside 40 = .ok (.iload_n 1, 1) := by decide +kernel
theorem dX6_beside_41 : decode cX6_beside 41 = .ok (.iaload, 1) := by decide +kernel
theorem dX6_beside_42 : decode cX6_beside 42 = .ok (.iadd, 1) := by decide +kernel
theorem dX6_beside_43 : decode cX6_beside 43 = .ok (.istore_n 3, 1) := by decide +kernel
theorem dX6_beside_44 : decode cX6_beside 44 = .ok (.iload_n 2, 1) := by decide +kernel
theorem dX6_beside_45 : decode cX6_beside 45 = .ok (.ifCond .lt 28, 3) := by decide +kernel
theorem dX6_beside_48 : decode cX6_beside 48 = .ok (.iload_n 2, 1) := by decide +kernel
theorem dX6_beside_49 : decode cX6_beside 49 = .ok (.bipush 10, 2) := by decide +kernel
theorem dX6_beside_51 : decode cX6_beside 51 = .ok (.if_icmp .ge 22, 3) := by decide +kernel
theorem dX6_beside_54 : decode cX6_beside 54 = .ok (.iload_n 3, 1) := by decide +kernel
theorem dX6_beside_55 : decode cX6_beside 55 = .ok (.ifCond .lt 18, 3) := by decide +kernel
theorem dX6_beside_58 : decode cX6_beside 58 = .ok (.iload_n 3, 1) := by decide +kernel
theorem dX6_beside_59 : decode cX6_beside 59 = .ok (.bipush 10, 2) := by decide +kernel
theorem dX6_beside_61 : decode cX6_beside 61 = .ok (.if_icmp .ge 12, 3) := by decide +kernel
theorem dX6_beside_64 : decode cX6_beside 64 = .ok (.bipush 10, 2) := by decide +kernel
theorem dX6_beside_66 : decode cX6_beside 66 = .ok (.iload_n 3, 1) := by decide +kernel
theorem dX6_beside_67 : decode cX6_beside 67 = .ok (.imul, 1) := by decide +kernel
theorem dX6_beside_68 : decode cX6_beside 68 = .ok (.iload_n 2, 1) := by decide +kernel
theorem dX6_beside_69 : decode cX6_beside 69 = .ok (.iadd, 1) := by decide +kernel
theorem dX6_beside_70 : decode cX6_beside 70 = .ok (.goto 4, 3) := by decide +kernel
theorem dX6_beside_73 : decode cX6_beside 73 = .ok (.iconst (-1), 1) := by decide +kernel
theorem dX6_beside_74 : decode cX6_beside 74 = .ok (.ireturn, 1) := by decide +kernel
theorem dX6_isOpen_0 : decode cX6_isOpen 0 = .ok (.aload_n 0, 1) := by decide +kernel
theorem dX6_isOpen_1 : decode cX6_isOpen 1 = .ok (.iload_n 1, 1) := by decide +kernel
theorem dX6_isOpen_2 : decode cX6_isOpen 2 = .ok (.invokevirtual 36, 3) := by decide +kernel
theorem dX6_isOpen_5 : decode cX6_isOpen 5 = .ok (.istore_n 2, 1) := by decide +kernel
theorem dX6_isOpen_6 : decode cX6_isOpen 6 = .ok (.iload_n 2, 1) := by decide +kernel
theorem dX6_isOpen_7 : decode cX6_isOpen 7 = .ok (.iconst 1, 1) := by decide +kernel
theorem dX6_isOpen_8 : decode cX6_isOpen 8 = .ok (.if_icmp .eq 12, 3) := by decide +kernel
theorem dX6_isOpen_11 : decode cX6_isOpen 11 = .ok (.iload_n 2, 1) := by decide +kernel
theorem dX6_isOpen_12 : decode cX6_isOpen 12 = .ok (.iconst 3, 1) := by decide +kernel
theorem dX6_isOpen_13 : decode cX6_isOpen 13 = .ok (.if_icmp .eq 7, 3) := by decide +kernel
theorem dX6_isOpen_16 : decode cX6_isOpen 16 = .ok (.iconst 1, 1) := by decide +kernel
theorem dX6_isOpen_17 : decode cX6_isOpen 17 = .ok (.goto 4, 3) := by decide +kernel
theorem dX6_isOpen_20 : decode cX6_isOpen 20 = .ok (.iconst 0, 1) := by decide +kernel
theorem dX6_isOpen_21 : decode cX6_isOpen 21 = .ok (.ireturn, 1) := by decide +kernel
theorem dX6_isSpot_0 : decode cX6_isSpot 0 = .ok (.iload_n 0, 1) := by decide +kernel
theorem dX6_isSpot_1 : decode cX6_isSpot 1 = .ok (.ifCond .lt 13, 3) := by decide +kernel
theorem dX6_isSpot_4 : decode cX6_isSpot 4 = .ok (.iload_n 0, 1) := by decide +kernel
theorem dX6_isSpot_5 : decode cX6_isSpot 5 = .ok (.bipush 100, 2) := by decide +kernel
theorem dX6_isSpot_7 : decode cX6_isSpot 7 = .ok (.if_icmp .ge 7, 3) := by decide +kernel
theorem dX6_isSpot_10 : decode cX6_isSpot 10 = .ok (.iconst 1, 1) := by decide +kernel
theorem dX6_isSpot_11 : decode cX6_isSpot 11 = .ok (.goto 4, 3) := by decide +kernel
theorem dX6_isSpot_14 : decode cX6_isSpot 14 = .ok (.iconst 0, 1) := by decide +kernel
theorem dX6_isSpot_15 : decode cX6_isSpot 15 = .ok (.ireturn, 1) := by decide +kernel
theorem dX6_kindAt_0 : decode cX6_kindAt 0 = .ok (.iload_n 1, 1) := by decide +kernel
theorem dX6_kindAt_1 : decode cX6_kindAt 1 = .ok (.ifCond .lt 18, 3) := by decide +kernel
theorem dX6_kindAt_4 : decode cX6_kindAt 4 = .ok (.iload_n 1, 1) := by decide +kernel
theorem dX6_kindAt_5 : decode cX6_kindAt 5 = .ok (.bipush 100, 2) := by decide +kernel
theorem dX6_kindAt_7 : decode cX6_kindAt 7 = .ok (.if_icmp .ge 12, 3) := by decide +kernel
theorem dX6_kindAt_10 : decode cX6_kindAt 10 = .ok (.aload_n 0, 1) := by decide +kernel
theorem dX6_kindAt_11 : decode cX6_kindAt 11 = .ok (.getfield 9, 3) := by decide +kernel
theorem dX6_kindAt_14 : decode cX6_kindAt 14 = .ok (.iload_n 1, 1) := by decide +kernel
theorem dX6_kindAt_15 : decode cX6_kindAt 15 = .ok (.iaload, 1) := by decide +kernel
theorem dX6_kindAt_16 : decode cX6_kindAt 16 = .ok (.goto 4, 3) := by decide +kernel
theorem dX6_kindAt_19 : decode cX6_kindAt 19 = .ok (.iconst 1, 1) := by decide +kernel
theorem dX6_kindAt_20 : decode cX6_kindAt 20 = .ok (.ireturn, 1) := by decide +kernel
theorem dX6_openSpot_0 : decode cX6_openSpot 0 = .ok (.iload_n 1, 1) := by decide +kernel
theorem dX6_openSpot_1 : decode cX6_openSpot 1 = .ok (.iload_n 2, 1) := by decide +kernel
theorem dX6_openSpot_2 : decode cX6_openSpot 2 = .ok (.invokestatic 40, 3) := by decide +kernel
theorem dX6_openSpot_5 : decode cX6_openSpot 5 = .ok (.istore_n 3, 1) := by decide +kernel
theorem dX6_openSpot_6 : decode cX6_openSpot 6 = .ok (.aload_n 0, 1) := by decide +kernel
theorem dX6_openSpot_7 : decode cX6_openSpot 7 = .ok (.iload_n 3, 1) := by decide +kernel
theorem dX6_openSpot_8 : decode cX6_openSpot 8 = .ok (.invokevirtual 44, 3) := by decide +kernel
theorem dX6_openSpot_11 : decode cX6_openSpot 11 = .ok (.ifCond .eq 7, 3) := by decide +kernel
theorem dX6_openSpot_14 : decode cX6_openSpot 14 = .ok (.iload_n 3, 1) := by decide +kernel
theorem dX6_openSpot_15 : decode cX6_openSpot 15 = .ok (.goto 4, 3) := by decide +kernel
theorem dX6_openSpot_18 : decode cX6_openSpot 18 = .ok (.iconst (-1), 1) := by decide +kernel
theorem dX6_openSpot_19 : decode cX6_openSpot 19 = .ok (.ireturn, 1) := by decide +kernel
theorem dX6_spotAt_0 : decode cX6_spotAt 0 = .ok (.iload_n 0, 1) := by decide +kernel
theorem dX6_spotAt_1 : decode cX6_spotAt 1 = .ok (.ifCond .lt 28, 3) := by decide +kernel
theorem dX6_spotAt_4 : decode cX6_spotAt 4 = .ok (.iload_n 0, 1) := by decide +kernel
theorem dX6_spotAt_5 : decode cX6_spotAt 5 = .ok (.bipush 10, 2) := by decide +kernel
theorem dX6_spotAt_7 : decode cX6_spotAt 7 = .ok (.if_icmp .ge 22, 3) := by decide +kernel
theorem dX6_spotAt_10 : decode cX6_spotAt 10 = .ok (.iload_n 1, 1) := by decide +kernel
theorem dX6_spotAt_11 : decode cX6_spotAt 11 = .ok (.ifCond .lt 18, 3) := by decide +kernel
theorem dX6_spotAt_14 : decode cX6_spotAt 14 = .ok (.iload_n 1, 1) := by decide +kernel
theorem dX6_spotAt_15 : decode cX6_spotAt 15 = .ok (.bipush 10, 2) := by decide +kernel
theorem dX6_spotAt_17 : decode cX6_spotAt 17 = .ok (.if_icmp .ge 12, 3) := by decide +kernel
theorem dX6_spotAt_20 : decode cX6_spotAt 20 = .ok (.bipush 10, 2) := by decide +kernel
theorem dX6_spotAt_22 : decode cX6_spotAt 22 = .ok (.iload_n 1, 1) := by decide +kernel
theorem dX6_spotAt_23 : decode cX6_spotAt 23 = .ok (.imul, 1) := by decide +kernel
theorem dX6_spotAt_24 : decode cX6_spotAt 24 = .ok (.iload_n 0, 1) := by decide +kernel
theorem dX6_spotAt_25 : decode cX6_spotAt 25 = .ok (.iadd, 1) := by decide +kernel
theorem dX6_spotAt_26 : decode cX6_spotAt 26 = .ok (.goto 4, 3) := by decide +kernel
theorem dX6_spotAt_29 : decode cX6_spotAt 29 = .ok (.iconst (-1), 1) := by decide +kernel
theorem dX6_spotAt_30 : decode cX6_spotAt 30 = .ok (.ireturn, 1) := by decide +kernel
end
section
set_option maxHeartbeats 4000000 in
set_option maxRecDepth 100000 in
theorem c_X6_spotAt (l : Launch) (D : va_G) (g : xG) (T : Nat × Nat × Nat) (h0 : Nat) (s0 : xS) (hσ : xRR s0) (x : Int) (rx : xR x) (y : Int) (ry : xR y) : Met l yX6_spotAt (xws yX6_spotAt cX6_spotAt 2 (some .int)) { frames := 0, cells := 0, slots := 0, locals := 0 } (xP [.int (xJ x), .int (xJ y)] D g T h0 s0) (xQi D g h0 (fun r τ => s0 = τ ∧ ((0 ≤ x ∧ x < 10 ∧ 0 ≤ y ∧ y < 10 ∧ r = 10 * y + x) ∨ ((x < 0 ∨ 10 ≤ x ∨ y < 0 ∨ 10 ≤ y) ∧ r = -1)))) 0 0 (xA h0) := by
  refine x_met hσ (by decide) (Nat.le_of_ble_eq_true rfl) ?_
  intro p e s m args below meth c hx hb hr hml hown hT hlk hnm hE hW ls hl
  have hl : lv_has ls 2 [(0, .int (xJ x)), (1, .int (xJ y))] := hl
  obtain ⟨Q, eQ⟩ : ∃ Q, Q = MQ below (xQi D g h0 (fun r τ => s0 = τ ∧ ((0 ≤ x ∧ x < 10 ∧ 0 ≤ y ∧ y < 10 ∧ r = 10 * y + x) ∨ ((x < 0 ∨ 10 ≤ x ∨ y < 0 ∨ 10 ≤ y) ∧ r = -1)))) args s 0 0 (xA h0) := ⟨_, rfl⟩
  rw [← eQ]
  generalize hHe : ([] : List Loc) = locs at hW ⊢
  obtain ⟨H, eH⟩ : ∃ H, H = s.heap := ⟨_, rfl⟩
  rw [← eH] at hW ⊢
  refine x_iload_n hx hb hl 0 rfl dX6_spotAt_0 rfl ?_
  refine x_if_lt (tgt := 29) hx hb rx dX6_spotAt_1 (by decide) (fun c1 => ?_) (fun c1 => ?_)
  · skip
    refine x_iconst hx hb dX6_spotAt_29 ?_
    rw [eQ]
    exact x_iret hx hb hr hlk hW (by decide) ⟨rfl, by omega⟩ dX6_spotAt_30
  refine x_iload_n hx hb hl 0 rfl dX6_spotAt_4 rfl ?_
  refine x_bipush hx hb dX6_spotAt_5 (by decide) ?_
  refine x_icmp_ge (tgt := 29) hx hb rx (by decide) dX6_spotAt_7 (by decide) (fun c2 => ?_) (fun c2 => ?_)
  · skip
    refine x_iconst hx hb dX6_spotAt_29 ?_
    rw [eQ]
    exact x_iret hx hb hr hlk hW (by decide) ⟨rfl, by omega⟩ dX6_spotAt_30
  refine x_iload_n hx hb hl 1 rfl dX6_spotAt_10 rfl ?_
  refine x_if_lt (tgt := 29) hx hb ry dX6_spotAt_11 (by decide) (fun c3 => ?_) (fun c3 => ?_)
  · skip
    refine x_iconst hx hb dX6_spotAt_29 ?_
    rw [eQ]
    exact x_iret hx hb hr hlk hW (by decide) ⟨rfl, by omega⟩ dX6_spotAt_30
  refine x_iload_n hx hb hl 1 rfl dX6_spotAt_14 rfl ?_
  refine x_bipush hx hb dX6_spotAt_15 (by decide) ?_
  refine x_icmp_ge (tgt := 29) hx hb ry (by decide) dX6_spotAt_17 (by decide) (fun c4 => ?_) (fun c4 => ?_)
  · skip
    refine x_iconst hx hb dX6_spotAt_29 ?_
    rw [eQ]
    exact x_iret hx hb hr hlk hW (by decide) ⟨rfl, by omega⟩ dX6_spotAt_30
  refine x_bipush hx hb dX6_spotAt_20 (by decide) ?_
  refine x_iload_n hx hb hl 1 rfl dX6_spotAt_22 rfl ?_
  refine x_imul hx hb dX6_spotAt_23 ?_
  refine x_iload_n hx hb hl 0 rfl dX6_spotAt_24 rfl ?_
  refine x_iadd hx hb dX6_spotAt_25 ?_
  refine lv_goto (tgt := 30) hx hb dX6_spotAt_26 (by decide) ?_
  rw [eQ]
  exact x_iret hx hb hr hlk hW (by omega) ⟨rfl, by omega⟩ dX6_spotAt_30
set_option maxHeartbeats 4000000 in
set_option maxRecDepth 100000 in
theorem c_X6_isSpot (l : Launch) (D : va_G) (g : xG) (T : Nat × Nat × Nat) (h0 : Nat) (s0 : xS) (hσ : xRR s0) (x : Int) (rx : xR x) : Met l yX6_isSpot (xws yX6_isSpot cX6_isSpot 1 (some .boolean)) { frames := 0, cells := 0, slots := 0, locals := 0 } (xP [.int (xJ x)] D g T h0 s0) (xQi D g h0 (fun r τ => s0 = τ ∧ ((r = 1 ∧ 0 ≤ x ∧ x < 100) ∨ (r = 0 ∧ (x < 0 ∨ 100 ≤ x))))) 0 0 (xA h0) := by
  refine x_met hσ (by decide) (Nat.le_of_ble_eq_true rfl) ?_
  intro p e s m args below meth c hx hb hr hml hown hT hlk hnm hE hW ls hl
  have hl : lv_has ls 1 [(0, .int (xJ x))] := hl
  obtain ⟨Q, eQ⟩ : ∃ Q, Q = MQ below (xQi D g h0 (fun r τ => s0 = τ ∧ ((r = 1 ∧ 0 ≤ x ∧ x < 100) ∨ (r = 0 ∧ (x < 0 ∨ 100 ≤ x))))) args s 0 0 (xA h0) := ⟨_, rfl⟩
  rw [← eQ]
  generalize hHe : ([] : List Loc) = locs at hW ⊢
  obtain ⟨H, eH⟩ : ∃ H, H = s.heap := ⟨_, rfl⟩
  rw [← eH] at hW ⊢
  refine x_iload_n hx hb hl 0 rfl dX6_isSpot_0 rfl ?_
  refine x_if_lt (tgt := 14) hx hb rx dX6_isSpot_1 (by decide) (fun c1 => ?_) (fun c1 => ?_)
  · skip
    refine x_iconst hx hb dX6_isSpot_14 ?_
    rw [eQ]
    exact x_zret hx hb hr hlk hW (by omega) ⟨rfl, by omega⟩ dX6_isSpot_15
  refine x_iload_n hx hb hl 0 rfl dX6_isSpot_4 rfl ?_
  refine x_bipush hx hb dX6_isSpot_5 (by decide) ?_
  refine x_icmp_ge (tgt := 14) hx hb rx (by decide) dX6_isSpot_7 (by decide) (fun c2 => ?_) (fun c2 => ?_)
  · skip
    refine x_iconst hx hb dX6_isSpot_14 ?_
    rw [eQ]
    exact x_zret hx hb hr hlk hW (by omega) ⟨rfl, by omega⟩ dX6_isSpot_15
  refine x_iconst hx hb dX6_isSpot_10 ?_
  refine lv_goto (tgt := 15) hx hb dX6_isSpot_11 (by decide) ?_
  rw [eQ]
  exact x_zret hx hb hr hlk hW (by omega) ⟨rfl, by omega⟩ dX6_isSpot_15
set_option maxHeartbeats 4000000 in
set_option maxRecDepth 100000 in
theorem c_X6_beside (l : Launch) (D : va_G) (g : xG) (T : Nat × Nat × Nat) (h0 : Nat) (s0 : xS) (hσ : xRR s0) (x : Int) (rx : xR x) (w : Int) (rw : xR w) : Met l yX6_beside (xws yX6_beside cX6_beside 4 (some .int)) { frames := 0, cells := 0, slots := 0, locals := 0 } (xP [.int (xJ x), .int (xJ w)] D g T h0 s0) (xQi D g h0 (fun r τ => s0 = τ ∧ (r = -1 ∨ (0 ≤ r ∧ r < 100)))) 0 0 (xA h0) := by
  refine x_met hσ (by decide) (Nat.le_of_ble_eq_true rfl) ?_
  intro p e s m args below meth c hx hb hr hml hown hT hlk hnm hE hW ls hl
  have hl : lv_has ls 4 [(0, .int (xJ x)), (1, .int (xJ w))] := hl
  obtain ⟨Q, eQ⟩ : ∃ Q, Q = MQ below (xQi D g h0 (fun r τ => s0 = τ ∧ (r = -1 ∨ (0 ≤ r ∧ r < 100)))) args s 0 0 (xA h0) := ⟨_, rfl⟩
  rw [← eQ]
  generalize hHe : ([] : List Loc) = locs at hW ⊢
  obtain ⟨H, eH⟩ : ∃ H, H = s.heap := ⟨_, rfl⟩
  rw [← eH] at hW ⊢
  refine x_iload_n hx hb hl 0 rfl dX6_beside_0 rfl ?_
  refine x_if_lt (tgt := 20) hx hb rx dX6_beside_1 (by decide) (fun c1 => ?_) (fun c1 => ?_)
  · skip
    refine x_iconst hx hb dX6_beside_20 ?_
    rw [eQ]
    exact x_iret hx hb hr hlk hW (by decide) ⟨rfl, by omega⟩ dX6_beside_21
  refine x_iload_n hx hb hl 0 rfl dX6_beside_4 rfl ?_
  refine x_bipush hx hb dX6_beside_5 (by decide) ?_
  refine x_icmp_ge (tgt := 20) hx hb rx (by decide) dX6_beside_7 (by decide) (fun c2 => ?_) (fun c2 => ?_)
  · skip
    refine x_iconst hx hb dX6_beside_20 ?_
    rw [eQ]
    exact x_iret hx hb hr hlk hW (by decide) ⟨rfl, by omega⟩ dX6_beside_21
  refine x_iload_n hx hb hl 1 rfl dX6_beside_10 rfl ?_
  refine x_if_lt (tgt := 20) hx hb rw dX6_beside_11 (by decide) (fun c3 => ?_) (fun c3 => ?_)
  · skip
    refine x_iconst hx hb dX6_beside_20 ?_
    rw [eQ]
    exact x_iret hx hb hr hlk hW (by decide) ⟨rfl, by omega⟩ dX6_beside_21
  refine x_iload_n hx hb hl 1 rfl dX6_beside_14 rfl ?_
  refine x_bipush hx hb dX6_beside_15 (by decide) ?_
  refine x_icmp_lt (tgt := 22) hx hb rw (by decide) dX6_beside_17 (by decide) (fun c4 => ?_) (fun c4 => ?_)
  · skip
    refine x_iload_n hx hb hl 0 rfl dX6_beside_22 rfl ?_
    refine x_bipush hx hb dX6_beside_23 (by decide) ?_
    refine x_irem hx hb rx (by decide) (by omega) (by decide) dX6_beside_25 ?_
    refine va_getsN hx hb hE.2.2.1.1 hW.2.2 hown (xE_N hE wn786 rfl) (fun _ h9 => h9) dX6_beside_26 ?_
    refine x_iload_n hx hb hl 1 rfl dX6_beside_29 rfl ?_
    refine x_wx hx hb hE hW (by omega) dX6_beside_30 ?_
    refine x_nm (fun x5 ex5 => ?_)
    have rx5 : -1 ≤ x5 ∧ x5 ≤ 1 := by rw [ex5]; exact xwx_in _
    refine x_iadd hx hb dX6_beside_31 ?_
    refine x_nm (fun x6 ex6 => ?_)
    refine lv_istore_n (lv' := [(2, .int (xJ x6)), (0, .int (xJ x)), (1, .int (xJ w))]) hx hb dX6_beside_32 rfl hl (by decide) rfl (fun ls hl => ?_)
    refine x_iload_n hx hb hl 1 rfl dX6_beside_33 rfl ?_
    refine x_bipush hx hb dX6_beside_34 (by decide) ?_
    refine x_idiv hx hb rx (by decide) (by omega) (by decide) dX6_beside_36 ?_
    refine va_getsN hx hb hE.2.2.2.1.1 hW.2.2 hown (xE_N hE wn788 rfl) (fun _ h9 => h9) dX6_beside_37 ?_
    refine x_iload_n hx hb hl 2 rfl dX6_beside_40 rfl ?_
    refine x_wy hx hb hE hW (by omega) dX6_beside_41 ?_
    refine x_nm (fun x7 ex7 => ?_)
    have rx7 : -1 ≤ x7 ∧ x7 ≤ 1 := by rw [ex7]; exact xwy_in _
    refine x_iadd hx hb dX6_beside_42 ?_
    refine x_nm (fun x8 ex8 => ?_)
    refine lv_istore_n (lv' := [(3, .int (xJ x8)), (2, .int (xJ x6)), (0, .int (xJ x)), (1, .int (xJ w))]) hx hb dX6_beside_43 rfl hl (by decide) rfl (fun ls hl => ?_)
    refine x_iload_n hx hb hl 1 rfl dX6_beside_44 rfl ?_
    refine x_if_lt (tgt := 73) hx hb (by omega) dX6_beside_45 (by decide) (fun c9 => ?_) (fun c9 => ?_)
    · skip
      refine x_iconst hx hb dX6_beside_73 ?_
      rw [eQ]
      exact x_iret hx hb hr hlk hW (by decide) ⟨rfl, by omega⟩ dX6_beside_74
    refine x_iload_n hx hb hl 1 rfl dX6_beside_48 rfl ?_
    refine x_bipush hx hb dX6_beside_49 (by decide) ?_
    refine x_icmp_ge (tgt := 73) hx hb (by omega) (by decide) dX6_beside_51 (by decide) (fun c10 => ?_) (fun c10 => ?_)
    · skip
      refine x_iconst hx hb dX6_beside_73 ?_
      rw [eQ]
      exact x_iret hx hb hr hlk hW (by decide) ⟨rfl, by omega⟩ dX6_beside_74
    refine x_iload_n hx hb hl 0 rfl dX6_beside_54 rfl ?_
    refine x_if_lt (tgt := 73) hx hb (by omega) dX6_beside_55 (by decide) (fun c11 => ?_) (fun c11 => ?_)
    · skip
      refine x_iconst hx hb dX6_beside_73 ?_
      rw [eQ]
      exact x_iret hx hb hr hlk hW (by decide) ⟨rfl, by omega⟩ dX6_beside_74
    refine x_iload_n hx hb hl 0 rfl dX6_beside_58 rfl ?_
    refine x_bipush hx hb dX6_beside_59 (by decide) ?_
    refine x_icmp_ge (tgt := 73) hx hb (by omega) (by decide) dX6_beside_61 (by decide) (fun c12 => ?_) (fun c12 => ?_)
    · skip
      refine x_iconst hx hb dX6_beside_73 ?_
      rw [eQ]
      exact x_iret hx hb hr hlk hW (by decide) ⟨rfl, by omega⟩ dX6_beside_74
    refine x_bipush hx hb dX6_beside_64 (by decide) ?_
    refine x_iload_n hx hb hl 0 rfl dX6_beside_66 rfl ?_
    refine x_imul hx hb dX6_beside_67 ?_
    refine x_iload_n hx hb hl 1 rfl dX6_beside_68 rfl ?_
    refine x_iadd hx hb dX6_beside_69 ?_
    refine lv_goto (tgt := 74) hx hb dX6_beside_70 (by decide) ?_
    rw [eQ]
    exact x_iret hx hb hr hlk hW (by omega) ⟨rfl, by omega⟩ dX6_beside_74
  refine x_iconst hx hb dX6_beside_20 ?_
  rw [eQ]
  exact x_iret hx hb hr hlk hW (by decide) ⟨rfl, by omega⟩ dX6_beside_21
set_option maxHeartbeats 4000000 in
set_option maxRecDepth 100000 in
theorem c_X6_kindAt (l : Launch) (D : va_G) (g : xG) (T : Nat × Nat × Nat) (h0 : Nat) (s0 : xS) (hσ : xRR s0) (x : Int) (rx : xR x) (p0 : s0 4 = fun _ => 0) : Met l yX6_kindAt (xws yX6_kindAt cX6_kindAt 2 (some .int)) { frames := 0, cells := 0, slots := 0, locals := 0 } (xP [.ref (h0 + 3), .int (xJ x)] D g T h0 s0) (xQi D g h0 (fun r τ => s0 = τ ∧ ((0 ≤ x ∧ x < 100 ∧ r = 0) ∨ ((x < 0 ∨ 100 ≤ x) ∧ r = 1)))) 0 0 (xA h0) := by
  refine x_met hσ (by decide) (Nat.le_of_ble_eq_true rfl) ?_
  intro p e s m args below meth c hx hb hr hml hown hT hlk hnm hE hW ls hl
  have hl : lv_has ls 2 [(0, .ref (h0 + 3)), (1, .int (xJ x))] := hl
  obtain ⟨Q, eQ⟩ : ∃ Q, Q = MQ below (xQi D g h0 (fun r τ => s0 = τ ∧ ((0 ≤ x ∧ x < 100 ∧ r = 0) ∨ ((x < 0 ∨ 100 ≤ x) ∧ r = 1)))) args s 0 0 (xA h0) := ⟨_, rfl⟩
  rw [← eQ]
  generalize hHe : ([] : List Loc) = locs at hW ⊢
  obtain ⟨H, eH⟩ : ∃ H, H = s.heap := ⟨_, rfl⟩
  rw [← eH] at hW ⊢
  refine x_iload_n hx hb hl 1 rfl dX6_kindAt_0 rfl ?_
  refine x_if_lt (tgt := 19) hx hb rx dX6_kindAt_1 (by decide) (fun c1 => ?_) (fun c1 => ?_)
  · skip
    refine x_iconst hx hb dX6_kindAt_19 ?_
    rw [eQ]
    exact x_iret hx hb hr hlk hW (by decide) ⟨rfl, by omega⟩ dX6_kindAt_20
  refine x_iload_n hx hb hl 1 rfl dX6_kindAt_4 rfl ?_
  refine x_bipush hx hb dX6_kindAt_5 (by decide) ?_
  refine x_icmp_ge (tgt := 19) hx hb rx (by decide) dX6_kindAt_7 (by decide) (fun c2 => ?_) (fun c2 => ?_)
  · skip
    refine x_iconst hx hb dX6_kindAt_19 ?_
    rw [eQ]
    exact x_iret hx hb hr hlk hW (by decide) ⟨rfl, by omega⟩ dX6_kindAt_20
  refine x_aload_n hx hb hl 0 rfl dX6_kindAt_10 rfl ?_
  refine x_get (j := 0) (v := .ref (h0 + 4)) hx hb hown hT hE hW cls_X6 (Or.inl (by decide)) (so_3 h0 g _) (by decide) rfl wq226 dX6_kindAt_11 ?_
  refine x_iload_n hx hb hl 1 rfl dX6_kindAt_14 rfl ?_
  refine x_iald hx hb hE hW (Or.inl (by decide)) (sa_4 h0 g _) (by omega) (by decide) dX6_kindAt_15 ?_
  refine x_rd hW (fun x3 ex3 rx3 => ?_)
  have fx3 : x3 = 0 := by rw [ex3, p0]
  refine lv_goto (tgt := 20) hx hb dX6_kindAt_16 (by decide) ?_
  rw [eQ]
  exact x_iret hx hb hr hlk hW rx3 ⟨rfl, by omega⟩ dX6_kindAt_20
set_option maxHeartbeats 4000000 in
set_option maxRecDepth 100000 in
theorem c_X6_isOpen (l : Launch) (D : va_G) (g : xG) (T : Nat × Nat × Nat) (h0 : Nat) (s0 : xS) (hσ : xRR s0) (x : Int) (rx : xR x) (p0 : s0 4 = fun _ => 0) : Met l yX6_isOpen (xws yX6_isOpen cX6_isOpen 3 (some .boolean)) { frames := 1, cells := 0, slots := 0, locals := 21 } (xP [.ref (h0 + 3), .int (xJ x)] D g T h0 s0) (xQi D g h0 (fun r τ => s0 = τ ∧ ((0 ≤ x ∧ x < 100 ∧ r = 1) ∨ ((x < 0 ∨ 100 ≤ x) ∧ r = 0)))) 0 0 (xA h0) := by
  refine x_met hσ (by decide) (Nat.le_of_ble_eq_true rfl) ?_
  intro p e s m args below meth c hx hb hr hml hown hT hlk hnm hE hW ls hl
  have hl : lv_has ls 3 [(0, .ref (h0 + 3)), (1, .int (xJ x))] := hl
  obtain ⟨Q, eQ⟩ : ∃ Q, Q = MQ below (xQi D g h0 (fun r τ => s0 = τ ∧ ((0 ≤ x ∧ x < 100 ∧ r = 1) ∨ ((x < 0 ∨ 100 ≤ x) ∧ r = 0)))) args s 0 0 (xA h0) := ⟨_, rfl⟩
  rw [← eQ]
  generalize hHe : ([] : List Loc) = locs at hW ⊢
  obtain ⟨H, eH⟩ : ∃ H, H = s.heap := ⟨_, rfl⟩
  rw [← eH] at hW ⊢
  refine x_aload_n hx hb hl 0 rfl dX6_isOpen_0 rfl ?_
  refine x_iload_n hx hb hl 1 rfl dX6_isOpen_1 rfl ?_
  refine x_goi (x_runV (As := [.int (xJ x)]) hx hb hml hown hT hE hW hl.1 (Or.inl (by decide)) (so_3 h0 g _) rfl cf_X6_kindAt wq619 wq10 wq617 (c_X6_kindAt l D g T h0 s0 hW.2.1 x rx p0) ⟨rfl, rfl, ⟨by decide, by decide⟩, ⟨by decide, by decide⟩⟩ rfl rfl (Nat.le_of_ble_eq_true rfl) dX6_isOpen_2) hW (fun x1 s2 H locs rx1 hp3 hW => ?_)
  obtain ⟨es2, hp3⟩ := hp3
  subst es2
  have ghp3 := hp3
  refine lv_istore_n (lv' := [(2, .int (xJ x1)), (0, .ref (h0 + 3)), (1, .int (xJ x))]) hx hb dX6_isOpen_5 rfl hl (by decide) rfl (fun ls hl => ?_)
  refine x_iload_n hx hb hl 0 rfl dX6_isOpen_6 rfl ?_
  refine x_iconst hx hb dX6_isOpen_7 ?_
  refine x_icmp_eq (tgt := 20) hx hb rx1 (by decide) dX6_isOpen_8 (by decide) (fun c4 => ?_) (fun c4 => ?_)
  · skip
    refine x_iconst hx hb dX6_isOpen_20 ?_
    rw [eQ]
    exact x_zret hx hb hr hlk hW (by omega) ⟨rfl, by omega⟩ dX6_isOpen_21
  refine x_iload_n hx hb hl 0 rfl dX6_isOpen_11 rfl ?_
  refine x_iconst hx hb dX6_isOpen_12 ?_
  refine x_icmp_eq (tgt := 20) hx hb rx1 (by decide) dX6_isOpen_13 (by decide) (fun c5 => ?_) (fun c5 => ?_)
  · skip
    refine x_iconst hx hb dX6_isOpen_20 ?_
    rw [eQ]
    exact x_zret hx hb hr hlk hW (by omega) ⟨rfl, by omega⟩ dX6_isOpen_21
  refine x_iconst hx hb dX6_isOpen_16 ?_
  refine lv_goto (tgt := 21) hx hb dX6_isOpen_17 (by decide) ?_
  rw [eQ]
  exact x_zret hx hb hr hlk hW (by omega) ⟨rfl, by omega⟩ dX6_isOpen_21
set_option maxHeartbeats 4000000 in
set_option maxRecDepth 100000 in
theorem c_X6_openSpot (l : Launch) (D : va_G) (g : xG) (T : Nat × Nat × Nat) (h0 : Nat) (s0 : xS) (hσ : xRR s0) (x : Int) (rx : xR x) (y : Int) (ry : xR y) (p0 : s0 4 = fun _ => 0) : Met l yX6_openSpot (xws yX6_openSpot cX6_openSpot 4 (some .int)) { frames := 2, cells := 0, slots := 0, locals := 43 } (xP [.ref (h0 + 3), .int (xJ x), .int (xJ y)] D g T h0 s0) (xQi D g h0 (fun r τ => s0 = τ ∧ ((0 ≤ x ∧ x < 10 ∧ 0 ≤ y ∧ y < 10 ∧ r = 10 * y + x) ∨ ((x < 0 ∨ 10 ≤ x ∨ y < 0 ∨ 10 ≤ y) ∧ r = -1)))) 0 0 (xA h0) := by
  refine x_met hσ (by decide) (Nat.le_of_ble_eq_true rfl) ?_
  intro p e s m args below meth c hx hb hr hml hown hT hlk hnm hE hW ls hl
  have hl : lv_has ls 4 [(0, .ref (h0 + 3)), (1, .int (xJ x)), (2, .int (xJ y))] := hl
  obtain ⟨Q, eQ⟩ : ∃ Q, Q = MQ below (xQi D g h0 (fun r τ => s0 = τ ∧ ((0 ≤ x ∧ x < 10 ∧ 0 ≤ y ∧ y < 10 ∧ r = 10 * y + x) ∨ ((x < 0 ∨ 10 ≤ x ∨ y < 0 ∨ 10 ≤ y) ∧ r = -1)))) args s 0 0 (xA h0) := ⟨_, rfl⟩
  rw [← eQ]
  generalize hHe : ([] : List Loc) = locs at hW ⊢
  obtain ⟨H, eH⟩ : ∃ H, H = s.heap := ⟨_, rfl⟩
  rw [← eH] at hW ⊢
  refine x_iload_n hx hb hl 1 rfl dX6_openSpot_0 rfl ?_
  refine x_iload_n hx hb hl 2 rfl dX6_openSpot_1 rfl ?_
  refine x_goi (x_runS (As := [.int (xJ x), .int (xJ y)]) hx hb hml hown hT hE hW hl.1 cf_X6_spotAt wq708 wq707 (c_X6_spotAt l D g T h0 s0 hW.2.1 x rx y ry) ⟨rfl, rfl, ⟨by decide, by decide⟩, ⟨by decide, by decide⟩⟩ rfl rfl (Nat.le_of_ble_eq_true rfl) dX6_openSpot_2) hW (fun x1 s2 H locs rx1 hp3 hW => ?_)
  obtain ⟨es2, hp3⟩ := hp3
  subst es2
  have ghp3 := hp3
  refine lv_istore_n (lv' := [(3, .int (xJ x1)), (0, .ref (h0 + 3)), (1, .int (xJ x)), (2, .int (xJ y))]) hx hb dX6_openSpot_5 rfl hl (by decide) rfl (fun ls hl => ?_)
  refine x_aload_n hx hb hl 1 rfl dX6_openSpot_6 rfl ?_
  refine x_iload_n hx hb hl 0 rfl dX6_openSpot_7 rfl ?_
  refine x_goi (x_runV (As := [.int (xJ x1)]) hx hb hml hown hT hE hW hl.1 (Or.inl (by decide)) (so_3 h0 g _) rfl cf_X6_isOpen wq615 wq9 wq710 (c_X6_isOpen l D g T h0 s0 hW.2.1 x1 rx1 p0) ⟨rfl, rfl, ⟨by decide, by decide⟩, ⟨by decide, by decide⟩⟩ rfl rfl (Nat.le_of_ble_eq_true rfl) dX6_openSpot_8) hW (fun x4 s5 H locs rx4 hp6 hW => ?_)
  obtain ⟨es5, hp6⟩ := hp6
  subst es5
  have ghp6 := hp6
  refine x_if_eq (tgt := 18) hx hb rx4 dX6_openSpot_11 (by decide) (fun c7 => ?_) (fun c7 => ?_)
  · skip
    refine x_iconst hx hb dX6_openSpot_18 ?_
    rw [eQ]
    exact x_iret hx hb hr hlk hW (by decide) ⟨rfl, by omega⟩ dX6_openSpot_19
  refine x_iload_n hx hb hl 0 rfl dX6_openSpot_14 rfl ?_
  refine lv_goto (tgt := 19) hx hb dX6_openSpot_15 (by decide) ?_
  rw [eQ]
  exact x_iret hx hb hr hlk hW rx1 ⟨rfl, by omega⟩ dX6_openSpot_19
set_option maxHeartbeats 4000000 in
set_option maxRecDepth 100000 in
theorem c_X4_tellMinute (l : Launch) (D : va_G) (g : xG) (T : Nat × Nat × Nat) (h0 : Nat) (s0 : xS) (hσ : xRR s0) (t : Int) (rt : xR t) : Met l yX4_tellMinute (xws yX4_tellMinute cX4_tellMinute 3 none) { frames := 0, cells := 0, slots := 0, locals := 0 } (xP [.ref (h0 + 109), .int (xJ t)] D g T h0 s0) (xQv D g h0 (fun τ => xFr (fun k => k = 115) s0 τ ∧ (True))) 0 0 (xA h0) := by
  refine x_met hσ (by decide) (Nat.le_of_ble_eq_true rfl) ?_
  intro p e s m args below meth c hx hb hr hml hown hT hlk hnm hE hW ls hl
  have hl : lv_has ls 3 [(0, .ref (h0 + 109)), (1, .int (xJ t))] := hl
  obtain ⟨Q, eQ⟩ : ∃ Q, Q = MQ below (xQv D g h0 (fun τ => xFr (fun k => k = 115) s0 τ ∧ (True))) args s 0 0 (xA h0) := ⟨_, rfl⟩
  rw [← eQ]
  generalize hHe : ([] : List Loc) = locs at hW ⊢
  obtain ⟨H, eH⟩ : ∃ H, H = s.heap := ⟨_, rfl⟩
  rw [← eH] at hW ⊢
  have hF : xFr (fun k => k = 115) s0 s0 := xFr.rf
  refine x_iconst hx hb dX4_tellMinute_0 ?_
  refine lv_istore_n (lv' := [(2, .int (xJ 2)), (0, .ref (h0 + 109)), (1, .int (xJ t))]) hx hb dX4_tellMinute_1 rfl hl (by decide) rfl (fun ls hl => ?_)
  have L2 : ∀ (fu : Nat) (i2_2 : Int) (s_2 : xS) (H : Heap) (locs : List Loc) (ls : Array Slot), (xR i2_2) → (xFr (fun k => k = 115) s0 s_2) → (0 ≤ i2_2) → (7 - i2_2).toNat < fu → xW D g h0 s H locs s_2 → lv_has ls 3 [(0, .ref (h0 + 109)), (1, .int (xJ t)), (2, .int (xJ i2_2))] → W p l e { frames := 0, cells := 0, slots := 0, locals := 0 } s m args below meth c H locs 0 0 Q (F0 m 2 ls []) := by
    intro fu
    induction fu with
    | zero => intro i2_2 s_2 H locs ls ri2_2 hF_2 v2_0 hm; exact absurd hm (Nat.not_lt_zero _)
    | succ fu ih2 =>
      intro i2_2 s_2 H locs ls ri2_2 hF_2 v2_0 hm hW hl
      refine x_iload_n hx hb hl 2 rfl dX4_tellMinute_2 rfl ?_
      refine x_aload_n hx hb hl 0 rfl dX4_tellMinute_3 rfl ?_
      refine x_get (j := 7) (v := .ref (h0 + 115)) hx hb hown hT hE hW cls_X4 (Or.inl (by decide)) (so_109 h0 g _) (by decide) rfl wq264 dX4_tellMinute_4 ?_
      refine x_alen (n := 7) (t0 := 0) hx hb hE hW (Or.inl (by decide)) (sa_115 h0 g _) rfl rfl dX4_tellMinute_7 ?_
      refine x_icmp_ge (tgt := 24) hx hb ri2_2 (by decide) dX4_tellMinute_8 (by decide) (fun c1 => ?_) (fun c1 => ?_)
      · skip
        refine x_aload_n hx hb hl 0 rfl dX4_tellMinute_24 rfl ?_
        refine x_get (j := 7) (v := .ref (h0 + 115)) hx hb hown hT hE hW cls_X4 (Or.inl (by decide)) (so_109 h0 g _) (by decide) rfl wq264 dX4_tellMinute_25 ?_
        refine x_iconst hx hb dX4_tellMinute_28 ?_
        refine x_iload_n hx hb hl 1 rfl dX4_tellMinute_29 rfl ?_
        refine x_iast hx hb hE hW (by decide) (fun σ => sa_115 h0 g σ) ⟨by decide, by decide⟩ (by decide) rt dX4_tellMinute_30 (fun H locs s2 es2 hW => ?_)
        have hF3 := hF_2.put es2 (by omega)
        refine x_aload_n hx hb hl 0 rfl dX4_tellMinute_31 rfl ?_
        refine x_get (j := 7) (v := .ref (h0 + 115)) hx hb hown hT hE hW cls_X4 (Or.inl (by decide)) (so_109 h0 g _) (by decide) rfl wq264 dX4_tellMinute_32 ?_
        refine x_iconst hx hb dX4_tellMinute_35 ?_
        refine x_iload_n hx hb hl 1 rfl dX4_tellMinute_36 rfl ?_
        refine x_bipush hx hb dX4_tellMinute_37 (by decide) ?_
        refine x_idivQ hx hb (by decide) (by omega) dX4_tellMinute_39 (fun x4 rx4 => ?_)
        refine x_bipush hx hb dX4_tellMinute_40 (by decide) ?_
        refine x_iremQ hx hb (by decide) (by omega) dX4_tellMinute_42 (fun x5 rx5 => ?_)
        refine x_iast hx hb hE hW (by decide) (fun σ => sa_115 h0 g σ) ⟨by decide, by decide⟩ (by decide) rx5 dX4_tellMinute_43 (fun H locs s6 es6 hW => ?_)
        have hF7 := hF3.put es6 (by omega)
        rw [eQ]
        exact x_vret hx hb hr hlk hW ⟨hF7, trivial⟩ dX4_tellMinute_44
      refine x_aload_n hx hb hl 0 rfl dX4_tellMinute_11 rfl ?_
      refine x_get (j := 7) (v := .ref (h0 + 115)) hx hb hown hT hE hW cls_X4 (Or.inl (by decide)) (so_109 h0 g _) (by decide) rfl wq264 dX4_tellMinute_12 ?_
      refine x_iload_n hx hb hl 2 rfl dX4_tellMinute_15 rfl ?_
      refine x_iconst hx hb dX4_tellMinute_16 ?_
      refine x_iast hx hb hE hW (by decide) (fun σ => sa_115 h0 g σ) (by omega) (by decide) (by decide) dX4_tellMinute_17 (fun H locs s8 es8 hW => ?_)
      have hF9 := hF_2.put es8 (by omega)
      refine x_iinc (lv' := [(2, .int (xJ (i2_2 + 1))), (0, .ref (h0 + 109)), (1, .int (xJ t))]) hx hb hl 2 rfl dX4_tellMinute_18 (by decide) rfl (fun ls hl => ?_)
      refine lv_goto (tgt := 2) hx hb dX4_tellMinute_21 (by decide) ?_
      exact ih2 (i2_2 + 1) s8 H locs ls (by omega) hF9 (by omega) (by omega) hW (lv_sub hl [1, 2, 0] rfl)
  exact L2 ((7 - 2 : Int).toNat + 1) 2 s0 H locs ls (by decide) hF (by omega) (Nat.lt_succ_self _) hW (lv_sub hl [1, 2, 0] rfl)
set_option maxHeartbeats 4000000 in
set_option maxRecDepth 100000 in
theorem c_X4_worthOf (l : Launch) (D : va_G) (g : xG) (T : Nat × Nat × Nat) (h0 : Nat) (s0 : xS) (hσ : xRR s0) (q : Int) (rq : xR q) (t : Int) (rt : xR t) (p0 : s0 109 6 = 0) : Met l yX4_worthOf (xws yX4_worthOf cX4_worthOf 4 (some .int)) { frames := 0, cells := 0, slots := 0, locals := 0 } (xP [.ref (h0 + 109), .int (xJ q), .int (xJ t)] D g T h0 s0) (xQi D g h0 (fun r τ => s0 = τ ∧ (r = 0))) 0 0 (xA h0) := by
  refine x_met hσ (by decide) (Nat.le_of_ble_eq_true rfl) ?_
  intro p e s m args below meth c hx hb hr hml hown hT hlk hnm hE hW ls hl
  have hl : lv_has ls 4 [(0, .ref (h0 + 109)), (1, .int (xJ q)), (2, .int (xJ t))] := hl
  obtain ⟨Q, eQ⟩ : ∃ Q, Q = MQ below (xQi D g h0 (fun r τ => s0 = τ ∧ (r = 0))) args s 0 0 (xA h0) := ⟨_, rfl⟩
  rw [← eQ]
  generalize hHe : ([] : List Loc) = locs at hW ⊢
  obtain ⟨H, eH⟩ : ∃ H, H = s.heap := ⟨_, rfl⟩
  rw [← eH] at hW ⊢
  refine x_iconst hx hb dX4_worthOf_0 ?_
  refine lv_istore_n (lv' := [(3, .int (xJ 0)), (0, .ref (h0 + 109)), (1, .int (xJ q)), (2, .int (xJ t))]) hx hb dX4_worthOf_1 rfl hl (by decide) rfl (fun ls hl => ?_)
  refine x_iload_n hx hb hl 0 rfl dX4_worthOf_2 rfl ?_
  refine x_aload_n hx hb hl 1 rfl dX4_worthOf_3 rfl ?_
  refine x_get (j := 6) (v := .int (xJ (s0 109 6))) hx hb hown hT hE hW cls_X4 (Or.inl (by decide)) (so_109 h0 g _) (by decide) rfl wq261 dX4_worthOf_4 ?_
  refine x_rd hW (fun x1 ex1 rx1 => ?_)
  have fx1 : x1 = 0 := by rw [ex1, p0]
  refine x_icmp_ge (tgt := 58) hx hb (by decide) rx1 dX4_worthOf_7 (by decide) (fun c2 => ?_) (fun c2 => False.elim (by omega))
  refine x_iconst hx hb dX4_worthOf_58 ?_
  rw [eQ]
  exact x_iret hx hb hr hlk hW (by decide) ⟨rfl, by omega⟩ dX4_worthOf_59
set_option maxHeartbeats 4000000 in
set_option maxRecDepth 100000 in
theorem c_X4_isNight (l : Launch) (D : va_G) (g : xG) (T : Nat × Nat × Nat) (h0 : Nat) (s0 : xS) (hσ : xRR s0) (t : Int) (rt : xR t) (p0 : s0 109 6 = 0) : Met l yX4_isNight (xws yX4_isNight cX4_isNight 3 (some .boolean)) { frames := 1, cells := 0, slots := 0, locals := 22 } (xP [.ref (h0 + 109), .int (xJ t)] D g T h0 s0) (xQi D g h0 (fun r τ => xFr (fun k => k = 115) s0 τ ∧ (r = 0))) 0 0 (xA h0) := by
  refine x_met hσ (by decide) (Nat.le_of_ble_eq_true rfl) ?_
  intro p e s m args below meth c hx hb hr hml hown hT hlk hnm hE hW ls hl
  have hl : lv_has ls 3 [(0, .ref (h0 + 109)), (1, .int (xJ t))] := hl
  obtain ⟨Q, eQ⟩ : ∃ Q, Q = MQ below (xQi D g h0 (fun r τ => xFr (fun k => k = 115) s0 τ ∧ (r = 0))) args s 0 0 (xA h0) := ⟨_, rfl⟩
  rw [← eQ]
  generalize hHe : ([] : List Loc) = locs at hW ⊢
  obtain ⟨H, eH⟩ : ∃ H, H = s.heap := ⟨_, rfl⟩
  rw [← eH] at hW ⊢
  have hF : xFr (fun k => k = 115) s0 s0 := xFr.rf
  refine x_aload_n hx hb hl 0 rfl dX4_isNight_0 rfl ?_
  refine x_iload_n hx hb hl 1 rfl dX4_isNight_1 rfl ?_
  refine x_gov (x_runV (As := [.int (xJ t)]) hx hb hml hown hT hE hW hl.1 (Or.inl (by decide)) (so_109 h0 g _) rfl cf_X4_tellMinute wq793 wq40 wq821 (c_X4_tellMinute l D g T h0 s0 hW.2.1 t rt) ⟨rfl, rfl, ⟨by decide, by decide⟩, ⟨by decide, by decide⟩⟩ rfl rfl (Nat.le_of_ble_eq_true rfl) dX4_isNight_2) hW (fun s2 H locs hp3 hW => ?_)
  obtain ⟨fs2, hp3⟩ := hp3
  have hF4 := hF.call fs2 (fun k h => by omega)
  have q5 : s2 109 6 = 0 := (congrFun (fs2 _ (by omega)) _).trans p0
  have ghp3 := hp3
  refine x_iconst hx hb dX4_isNight_5 ?_
  refine lv_istore_n (lv' := [(2, .int (xJ 0)), (0, .ref (h0 + 109)), (1, .int (xJ t))]) hx hb dX4_isNight_6 rfl hl (by decide) rfl (fun ls hl => ?_)
  refine x_iload_n hx hb hl 0 rfl dX4_isNight_7 rfl ?_
  refine x_aload_n hx hb hl 1 rfl dX4_isNight_8 rfl ?_
  refine x_get (j := 6) (v := .int (xJ (s2 109 6))) hx hb hown hT hE hW cls_X4 (Or.inl (by decide)) (so_109 h0 g _) (by decide) rfl wq261 dX4_isNight_9 ?_
  refine x_rd hW (fun x6 ex6 rx6 => ?_)
  have fx6 : x6 = 0 := by rw [ex6, q5]
  refine x_icmp_ge (tgt := 47) hx hb (by decide) rx6 dX4_isNight_12 (by decide) (fun c7 => ?_) (fun c7 => False.elim (by omega))
  refine x_iconst hx hb dX4_isNight_47 ?_
  rw [eQ]
  exact x_zret hx hb hr hlk hW (by omega) ⟨hF4, by omega⟩ dX4_isNight_48
end
section
theorem cls_X2 : xCls RX2 TX2 12 2 tyX2 := ⟨xin [415, 417, 419, 421, 423, 425, 427, 429, 431, 433, 435, 437] (by decide +kernel) (by decide +kernel), rfl, tyX2_ok, nmX2⟩
theorem st_X2_8 (h0 : Nat) (σ : xS) (k : Nat) (a : Int) : xobj h0 (xU σ k 8 a) k 2 = (xobj h0 σ k 2).set 8 (.int (xJ a)) := by simp [xobj, xU]
theorem ln_X2_8 (h0 : Nat) (σ : xS) (k : Nat) : 8 < (xobj h0 σ k 2).length := by simp [xobj]
theorem st_X2_9 (h0 : Nat) (σ : xS) (k : Nat) (a : Int) : xobj h0 (xU σ k 9 a) k 2 = (xobj h0 σ k 2).set 9 (.int (xJ a)) := by simp [xobj, xU]
theorem ln_X2_9 (h0 : Nat) (σ : xS) (k : Nat) : 9 < (xobj h0 σ k 2).length := by simp [xobj]
theorem st_X2_10 (h0 : Nat) (σ : xS) (k : Nat) (a : Int) : xobj h0 (xU σ k 10 a) k 2 = (xobj h0 σ k 2).set 10 (.int (xJ a)) := by simp [xobj, xU]
theorem ln_X2_10 (h0 : Nat) (σ : xS) (k : Nat) : 10 < (xobj h0 σ k 2).length := by simp [xobj]
theorem st_X2_11 (h0 : Nat) (σ : xS) (k : Nat) (a : Int) : xobj h0 (xU σ k 11 a) k 2 = (xobj h0 σ k 2).set 11 (.int (xJ a)) := by simp [xobj, xU]
theorem ln_X2_11 (h0 : Nat) (σ : xS) (k : Nat) : 11 < (xobj h0 σ k 2).length := by simp [xobj]
theorem cf_X2_hasFelon : xCF yX2_hasFelon cX2_hasFelon 2 (some .boolean) 1 := ⟨xq 863 (by decide +kernel) rfl, xq 176 (by decide +kernel) rfl, by decide +kernel⟩
theorem wq53 : Cond.selects yX2_hasFelon.cls yX2_hasFelon yX2_hasFelon ∈ xTB := xq 53 (by decide +kernel) rfl
theorem wq383 : Cond.fieldLink "ShadowCourt$Day" (9) "ShadowCourt$Day" "judgeSpot" "[I" ∈ xTB := xq 383 (by decide +kernel) rfl
theorem wq388 : Cond.fieldLink "ShadowCourt$Day" (23) "ShadowCourt$Day" "felonSpot" "[I" ∈ xTB := xq 388 (by decide +kernel) rfl
theorem wq392 : Cond.fieldLink "ShadowCourt$Day" (26) "ShadowCourt$Day" "owed" "[I" ∈ xTB := xq 392 (by decide +kernel) rfl
theorem wq404 : Cond.fieldLink "ShadowCourt$Day" (40) "ShadowCourt$Day" "drawState" "I" ∈ xTB := xq 404 (by decide +kernel) rfl
theorem wq406 : Cond.fieldLink "ShadowCourt$Day" (43) "ShadowCourt$Day" "timesAway" "I" ∈ xTB := xq 406 (by decide +kernel) rfl
theorem wq409 : Cond.fieldLink "ShadowCourt$Day" (46) "ShadowCourt$Day" "cloudyMinutes" "I" ∈ xTB := xq 409 (by decide +kernel) rfl
theorem wq412 : Cond.fieldLink "ShadowCourt$Day" (49) "ShadowCourt$Day" "felonSteps" "I" ∈ xTB := xq 412 (by decide +kernel) rfl
theorem wq799 : Cond.constant "ShadowCourt$Day" (60) (65536) ∈ xTB := xq 799 (by decide +kernel) rfl
theorem wq860 : Cond.methodLink "ShadowCourt$Day" (52) yX2_hasFelon ∈ xTB := xq 860 (by decide +kernel) rfl
theorem wq862 : Cond.instanceMethod yX2_hasFelon ∈ xTB := xq 862 (by decide +kernel) rfl
theorem dX2_clearCounts_0 : decode cX2_clearCounts 0 = .ok (.aload_n 0, 1) := by decide +kernel
theorem dX2_clearCounts_1 : decode cX2_clearCounts 1 = .ok (.iconst 0, 1) := by decide +kernel
theorem dX2_clearCounts_2 : decode cX2_clearCounts 2 = .ok (.putfield 43, 3) := by decide +kernel
theorem dX2_clearCounts_5 : decode cX2_clearCounts 5 = .ok (.aload_n 0, 1) := by decide +kernel
theorem dX2_clearCounts_6 : decode cX2_clearCounts 6 = .ok (.iconst 0, 1) := by decide +kernel
theorem dX2_clearCounts_7 : decode cX2_clearCounts 7 = .ok (.putfield 46, 3) := by decide +kernel
theorem dX2_clearCounts_10 : decode cX2_clearCounts 10 = .ok (.aload_n 0, 1) := by decide +kernel
theorem dX2_clearCounts_11 : decode cX2_clearCounts 11 = .ok (.iconst 0, 1) := by decide +kernel
theorem dX2_clearCounts_12 : decode cX2_clearCounts 12 = .ok (.putfield 49, 3) := by decide +kernel
theorem dX2_clearCounts_15 : decode cX2_clearCounts 15 = .ok (.return_, 1) := by decide +kernel
theorem dX2_draw_0 : decode cX2_draw 0 = .ok (.aload_n 0, 1) := by decide +kernel
theorem dX2_draw_1 : decode cX2_draw 1 = .ok (.sipush 25173, 3) := by decide +kernel
theorem dX2_draw_4 : decode cX2_draw 4 = .ok (.aload_n 0, 1) := by decide +kernel
theorem dX2_draw_5 : decode cX2_draw 5 = .ok (.getfield 40, 3) := by decide +kernel
theorem dX2_draw_8 : decode cX2_draw 8 = .ok (.imul, 1) := by decide +kernel
theorem dX2_draw_9 : decode cX2_draw 9 = .ok (.sipush 13849, 3) := by decide +kernel
theorem dX2_draw_12 : decode cX2_draw 12 = .ok (.iadd, 1) := by decide +kernel
theorem dX2_draw_13 : decode cX2_draw 13 = .ok (.ldc 60, 2) := by decide +kernel
theorem dX2_draw_15 : decode cX2_draw 15 = .ok (.irem, 1) := by decide +kernel
theorem dX2_draw_16 : decode cX2_draw 16 = .ok (.putfield 40, 3) := by decide +kernel
theorem dX2_draw_19 : decode cX2_draw 19 = .ok (.aload_n 0, 1) := by decide +kernel
theorem dX2_draw_20 : decode cX2_draw 20 = .ok (.getfield 40, 3) := by decide +kernel
theorem dX2_draw_23 : decode cX2_draw 23 = .ok (.bipush 10, 2) := by decide +kernel
theorem dX2_draw_25 : decode cX2_draw 25 = .ok (.irem, 1) := by decide +kernel
theorem dX2_draw_26 : decode cX2_draw 26 = .ok (.ireturn, 1) := by decide +kernel
theorem dX2_hasFelon_0 : decode cX2_hasFelon 0 = .ok (.iload_n 1, 1) := by decide +kernel
theorem dX2_hasFelon_1 : decode cX2_hasFelon 1 = .ok (.ifCond .lt 23, 3) := by decide +kernel
theorem dX2_hasFelon_4 : decode cX2_hasFelon 4 = .ok (.iload_n 1, 1) := by decide +kernel
theorem dX2_hasFelon_5 : decode cX2_hasFelon 5 = .ok (.bipush 10, 2) := by decide +kernel
theorem dX2_hasFelon_7 : decode cX2_hasFelon 7 = .ok (.if_icmp .ge 17, 3) := by decide +kernel
theorem dX2_hasFelon_10 : decode cX2_hasFelon 10 = .ok (.aload_n 0, 1) := by decide +kernel
theorem dX2_hasFelon_11 : decode cX2_hasFelon 11 = .ok (.getfield 23, 3) := by decide +kernel
theorem dX2_hasFelon_14 : decode cX2_hasFelon 14 = .ok (.iload_n 1, 1) := by decide +kernel
theorem dX2_hasFelon_15 : decode cX2_hasFelon 15 = .ok (.iaload, 1) := by decide +kernel
theorem dX2_hasFelon_16 : decode cX2_hasFelon 16 = .ok (.iconst (-1), 1) := by decide +kernel
theorem dX2_hasFelon_17 : decode cX2_hasFelon 17 = .ok (.if_icmp .eq 7, 3) := by decide +kernel
theorem dX2_hasFelon_20 : decode cX2_hasFelon 20 = .ok (.iconst 1, 1) := by decide +kernel
theorem dX2_hasFelon_21 : decode cX2_hasFelon 21 = .ok (.goto 4, 3) := by decide +kernel
theorem dX2_hasFelon_24 : decode cX2_hasFelon 24 = .ok (.iconst 0, 1) := by decide +kernel
theorem dX2_hasFelon_25 : decode cX2_hasFelon 25 = .ok (.ireturn, 1) := by decide +kernel
theorem dX2_hasJudge_0 : decode cX2_hasJudge 0 = .ok (.iload_n 1, 1) := by decide +kernel
theorem dX2_hasJudge_1 : decode cX2_hasJudge 1 = .ok (.ifCond .lt 22, 3) := by decide +kernel
theorem dX2_hasJudge_4 : decode cX2_hasJudge 4 = .ok (.iload_n 1, 1) := by decide +kernel
theorem dX2_hasJudge_5 : decode cX2_hasJudge 5 = .ok (.iconst 2, 1) := by decide +kernel
theorem dX2_hasJudge_6 : decode cX2_hasJudge 6 = .ok (.if_icmp .ge 17, 3) := by decide +kernel
theorem dX2_hasJudge_9 : decode cX2_hasJudge 9 = .ok (.aload_n 0, 1) := by decide +kernel
theorem dX2_hasJudge_10 : decode cX2_hasJudge 10 = .ok (.getfield 9, 3) := by decide +kernel
theorem dX2_hasJudge_13 : decode cX2_hasJudge 13 = .ok (.iload_n 1, 1) := by decide +kernel
theorem dX2_hasJudge_14 : decode cX2_hasJudge 14 = .ok (.iaload, 1) := by decide +kernel
theorem dX2_hasJudge_15 : decode cX2_hasJudge 15 = .ok (.iconst (-1), 1) := by decide +kernel
theorem dX2_hasJudge_16 : decode cX2_hasJudge 16 = .ok (.if_icmp .eq 7, 3) := by decide +kernel
theorem dX2_hasJudge_19 : decode cX2_hasJudge 19 = .ok (.iconst 1, 1) := by decide +kernel
theorem dX2_hasJudge_20 : decode cX2_hasJudge 20 = .ok (.goto 4, 3) := by decide +kernel
theorem dX2_hasJudge_23 : decode cX2_hasJudge 23 = .ok (.iconst 0, 1) := by decide +kernel
theorem dX2_hasJudge_24 : decode cX2_hasJudge 24 = .ok (.ireturn, 1) := by decide +kernel
theorem dX2_howManyDrowned_0 : decode cX2_howManyDrowned 0 = .ok (.iconst 0, 1) := by decide +kernel
theorem dX2_howManyDrowned_1 : decode cX2_howManyDrowned 1 = .ok (.istore_n 1, 1) := by decide +kernel
theorem dX2_howManyDrowned_2 : decode cX2_howManyDrowned 2 = .ok (.iconst 0, 1) := by decide +kernel
theorem dX2_howManyDrowned_3 : decode cX2_howManyDrowned 3 = .ok (.istore_n 2, 1) := by decide +kernel
theorem dX2_howManyDrowned_4 : decode cX2_howManyDrowned 4 = .ok (.iload_n 2, 1) := by decide +kernel
theorem dX2_howManyDrowned_5 : decode cX2_howManyDrowned 5 = .ok (.bipush 10, 2) := by decide +kernel
theorem dX2_howManyDrowned_7 : decode cX2_howManyDrowned 7 = .ok (.if_icmp .ge 34, 3) := by decide +kernel
theorem dX2_howManyDrowned_10 : decode cX2_howManyDrowned 10 = .ok (.iload_n 1, 1) := by decide +kernel
theorem dX2_howManyDrowned_11 : decode cX2_howManyDrowned 11 = .ok (.aload_n 0, 1) := by decide +kernel
theorem dX2_howManyDrowned_12 : decode cX2_howManyDrowned 12 = .ok (.iload_n 2, 1) := by decide +kernel
theorem dX2_howManyDrowned_13 : decode cX2_howManyDrowned 13 = .ok (.invokevirtual 52, 3) := by decide +kernel
theorem dX2_howManyDrowned_16 : decode cX2_howManyDrowned 16 = .ok (.ifCond .eq 16, 3) := by decide +kernel
theorem dX2_howManyDrowned_19 : decode cX2_howManyDrowned 19 = .ok (.aload_n 0, 1) := by decide +kernel
theorem dX2_howManyDrowned_20 : decode cX2_howManyDrowned 20 = .ok (.getfield 32, 3) := by decide +kernel
theorem dX2_howManyDrowned_23 : decode cX2_howManyDrowned 23 = .ok (.iload_n 2, 1) := by decide +kernel
theorem dX2_howManyDrowned_24 : decode cX2_howManyDrowned 24 = .ok (.baload, 1) := by decide +kernel
theorem dX2_howManyDrowned_25 : decode cX2_howManyDrowned 25 = .ok (.ifCond .eq 7, 3) := by decide +kernel
theorem dX2_howManyDrowned_28 : decode cX2_howManyDrowned 28 = .ok (.iconst 1, 1) := by decide +kernel
theorem dX2_howManyDrowned_29 : decode cX2_howManyDrowned 29 = .ok (.goto 4, 3) := by decide +kernel
theorem dX2_howManyDrowned_32 : decode cX2_howManyDrowned 32 = .ok (.iconst 0, 1) := by decide +kernel
theorem dX2_howManyDrowned_33 : decode cX2_howManyDrowned 33 = .ok (.iadd, 1) := by decide +kernel
theorem dX2_howManyDrowned_34 : decode cX2_howManyDrowned 34 = .ok (.istore_n 1, 1) := by decide +kernel
theorem dX2_howManyDrowned_35 : decode cX2_howManyDrowned 35 = .ok (.iinc 2 1, 3) := by decide +kernel
theorem dX2_howManyDrowned_38 : decode cX2_howManyDrowned 38 = .ok (.goto (-34), 3) := by decide +kernel
theorem dX2_howManyDrowned_41 : decode cX2_howManyDrowned 41 = .ok (.iload_n 1, 1) := by decide +kernel
theorem dX2_howManyDrowned_42 : decode cX2_howManyDrowned 42 = .ok (.ireturn, 1) := by decide +kernel
theorem dX2_howManyOweNothing_0 : decode cX2_howManyOweNothing 0 = .ok (.iconst 0, 1) := by decide +kernel
theorem dX2_howManyOweNothing_1 : decode cX2_howManyOweNothing 1 = .ok (.istore_n 1, 1) := by decide +kernel
theorem dX2_howManyOweNothing_2 : decode cX2_howManyOweNothing 2 = .ok (.iconst 0, 1) := by decide +kernel
theorem dX2_howManyOweNothing_3 : decode cX2_howManyOweNothing 3 = .ok (.istore_n 2, 1) := by decide +kernel
theorem dX2_howManyOweNothing_4 : decode cX2_howManyOweNothing 4 = .ok (.iload_n 2, 1) := by decide +kernel
theorem dX2_howManyOweNothing_5 : decode cX2_howManyOweNothing 5 = .ok (.bipush 10, 2) := by decide +kernel
theorem dX2_howManyOweNothing_7 : decode cX2_howManyOweNothing 7 = .ok (.if_icmp .ge 34, 3) := by decide +kernel
theorem dX2_howManyOweNothing_10 : decode cX2_howManyOweNothing 10 = .ok (.iload_n 1, 1) := by decide +kernel
theorem dX2_howManyOweNothing_11 : decode cX2_howManyOweNothing 11 = .ok (.aload_n 0, 1) := by decide +kernel
theorem dX2_howManyOweNothing_12 : decode cX2_howManyOweNothing 12 = .ok (.iload_n 2, 1) := by decide +kernel
theorem dX2_howManyOweNothing_13 : decode cX2_howManyOweNothing 13 = .ok (.invokevirtual 52, 3) := by decide +kernel
theorem dX2_howManyOweNothing_16 : decode cX2_howManyOweNothing 16 = .ok (.ifCond .eq 16, 3) := by decide +kernel
theorem dX2_howManyOweNothing_19 : decode cX2_howManyOweNothing 19 = .ok (.aload_n 0, 1) := by decide +kernel
theorem dX2_howManyOweNothing_20 : decode cX2_howManyOweNothing 20 = .ok (.getfield 26, 3) := by decide +kernel
theorem dX2_howManyOweNothing_23 : decode cX2_howManyOweNothing 23 = .ok (.iload_n 2, 1) := by decide +kernel
theorem dX2_howManyOweNothing_24 : decode cX2_howManyOweNothing 24 = .ok (.iaload, 1) := by decide +kernel
theorem dX2_howManyOweNothing_25 : decode cX2_howManyOweNothing 25 = .ok (.ifCond .ne 7, 3) := by decide +kernel
theorem dX2_howManyOweNothing_28 : decode cX2_howManyOweNothing 28 = .ok (.iconst 1, 1) := by decide +kernel
theorem dX2_howManyOweNothing_29 : decode cX2_howManyOweNothing 29 = .ok (.goto 4, 3) := by decide +kernel
theorem dX2_howManyOweNothing_32 : decode cX2_howManyOweNothing 32 = .ok (.iconst 0, 1) := by decide +kernel
theorem dX2_howManyOweNothing_33 : decode cX2_howManyOweNothing 33 = .ok (.iadd, 1) := by decide +kernel
theorem dX2_howManyOweNothing_34 : decode cX2_howManyOweNothing 34 = .ok (.istore_n 1, 1) := by decide +kernel
theorem dX2_howManyOweNothing_35 : decode cX2_howManyOweNothing 35 = .ok (.iinc 2 1, 3) := by decide +kernel
theorem dX2_howManyOweNothing_38 : decode cX2_howManyOweNothing 38 = .ok (.goto (-34), 3) := by decide +kernel
theorem dX2_howManyOweNothing_41 : decode cX2_howManyOweNothing 41 = .ok (.iload_n 1, 1) := by decide +kernel
theorem dX2_howManyOweNothing_42 : decode cX2_howManyOweNothing 42 = .ok (.ireturn, 1) := by decide +kernel
theorem dX2_mustServe_0 : decode cX2_mustServe 0 = .ok (.aload_n 0, 1) := by decide +kernel
theorem dX2_mustServe_1 : decode cX2_mustServe 1 = .ok (.iload_n 1, 1) := by decide +kernel
theorem dX2_mustServe_2 : decode cX2_mustServe 2 = .ok (.invokevirtual 52, 3) := by decide +kernel
theorem dX2_mustServe_5 : decode cX2_mustServe 5 = .ok (.ifCond .eq 25, 3) := by decide +kernel
theorem dX2_mustServe_8 : decode cX2_mustServe 8 = .ok (.aload_n 0, 1) := by decide +kernel
theorem dX2_mustServe_9 : decode cX2_mustServe 9 = .ok (.getfield 26, 3) := by decide +kernel
theorem dX2_mustServe_12 : decode cX2_mustServe 12 = .ok (.iload_n 1, 1) := by decide +kernel
theorem dX2_mustServe_13 : decode cX2_mustServe 13 = .ok (.iaload, 1) := by decide +kernel
theorem dX2_mustServe_14 : decode cX2_mustServe 14 = .ok (.ifCond .le 16, 3) := by decide +kernel
theorem dX2_mustServe_17 : decode cX2_mustServe 17 = .ok (.aload_n 0, 1) := by decide +kernel
theorem dX2_mustServe_18 : decode cX2_mustServe 18 = .ok (.getfield 32, 3) := by decide +kernel
theorem dX2_mustServe_21 : decode cX2_mustServe 21 = .ok (.iload_n 1, 1) := by decide +kernel
theorem dX2_mustServe_22 : decode cX2_mustServe 22 = .ok (.baload, 1) := by decide +kernel
theorem dX2_mustServe_23 : decode cX2_mustServe 23 = .ok (.ifCond .ne 7, 3) := by decide +kernel
theorem dX2_mustServe_26 : decode cX2_mustServe 26 = .ok (.iconst 1, 1) := by decide +kernel
theorem dX2_mustServe_27 : decode cX2_mustServe 27 = .ok (.goto 4, 3) := by decide +kernel
theorem dX2_mustServe_30 : decode cX2_mustServe 30 = .ok (.iconst 0, 1) := by decide +kernel
theorem dX2_mustServe_31 : decode cX2_mustServe 31 = .ok (.ireturn, 1) := by decide +kernel
theorem dX2_owedByAll_0 : decode cX2_owedByAll 0 = .ok (.iconst 0, 1) := by decide +kernel
theorem dX2_owedByAll_1 : decode cX2_owedByAll 1 = .ok (.istore_n 1, 1) := by decide +kernel
theorem dX2_owedByAll_2 : decode cX2_owedByAll 2 = .ok (.iconst 0, 1) := by decide +kernel
theorem dX2_owedByAll_3 : decode cX2_owedByAll 3 = .ok (.istore_n 2, 1) := by decide +kernel
theorem dX2_owedByAll_4 : decode cX2_owedByAll 4 = .ok (.iload_n 2, 1) := by decide +kernel
theorem dX2_owedByAll_5 : decode cX2_owedByAll 5 = .ok (.bipush 10, 2) := by decide +kernel
theorem dX2_owedByAll_7 : decode cX2_owedByAll 7 = .ok (.if_icmp .ge 18, 3) := by decide +kernel
theorem dX2_owedByAll_10 : decode cX2_owedByAll 10 = .ok (.iload_n 1, 1) := by decide +kernel
theorem dX2_owedByAll_11 : decode cX2_owedByAll 11 = .ok (.aload_n 0, 1) := by decide +kernel
theorem dX2_owedByAll_12 : decode cX2_owedByAll 12 = .ok (.getfield 26, 3) := by decide +kernel
theorem dX2_owedByAll_15 : decode cX2_owedByAll 15 = .ok (.iload_n 2, 1) := by decide +kernel
theorem dX2_owedByAll_16 : decode cX2_owedByAll 16 = .ok (.iaload, 1) := by decide +kernel
theorem dX2_owedByAll_17 : decode cX2_owedByAll 17 = .ok (.iadd, 1) := by decide +kernel
theorem dX2_owedByAll_18 : decode cX2_owedByAll 18 = .ok (.istore_n 1, 1) := by decide +kernel
theorem dX2_owedByAll_19 : decode cX2_owedByAll 19 = .ok (.iinc 2 1, 3) := by decide +kernel
theorem dX2_owedByAll_22 : decode cX2_owedByAll 22 = .ok (.goto (-18), 3) := by decide +kernel
theorem dX2_owedByAll_25 : decode cX2_owedByAll 25 = .ok (.iload_n 1, 1) := by decide +kernel
theorem dX2_owedByAll_26 : decode cX2_owedByAll 26 = .ok (.ireturn, 1) := by decide +kernel
end
section
set_option maxHeartbeats 4000000 in
set_option maxRecDepth 100000 in
theorem c_X2_hasJudge (l : Launch) (D : va_G) (g : xG) (T : Nat × Nat × Nat) (h0 : Nat) (s0 : xS) (hσ : xRR s0) (d : Nat) (hd : xDay d) (j : Int) (rj : xR j) (p0 : s0 (d + 1) = fun _ => (-1)) : Met l yX2_hasJudge (xws yX2_hasJudge cX2_hasJudge 2 (some .boolean)) { frames := 0, cells := 0, slots := 0, locals := 0 } (xP [.ref (h0 + d), .int (xJ j)] D g T h0 s0) (xQi D g h0 (fun r τ => s0 = τ ∧ (r = 0))) 0 0 (xA h0) := by
  refine x_met hσ (by decide) (Nat.le_of_ble_eq_true rfl) ?_
  intro p e s m args below meth c hx hb hr hml hown hT hlk hnm hE hW ls hl
  have hl : lv_has ls 2 [(0, .ref (h0 + d)), (1, .int (xJ j))] := hl
  obtain ⟨Q, eQ⟩ : ∃ Q, Q = MQ below (xQi D g h0 (fun r τ => s0 = τ ∧ (r = 0))) args s 0 0 (xA h0) := ⟨_, rfl⟩
  rw [← eQ]
  generalize hHe : ([] : List Loc) = locs at hW ⊢
  obtain ⟨H, eH⟩ : ∃ H, H = s.heap := ⟨_, rfl⟩
  rw [← eH] at hW ⊢
  have hbd : (136 ≤ d ∧ d < 209) ∧ (d ≤ 146 ∨ 158 ≤ d) := by unfold xDay at hd; omega
  refine x_iload_n hx hb hl 1 rfl dX2_hasJudge_0 rfl ?_
  refine x_if_lt (tgt := 23) hx hb rj dX2_hasJudge_1 (by decide) (fun c1 => ?_) (fun c1 => ?_)
  · skip
    refine x_iconst hx hb dX2_hasJudge_23 ?_
    rw [eQ]
    exact x_zret hx hb hr hlk hW (by omega) ⟨rfl, by omega⟩ dX2_hasJudge_24
  refine x_iload_n hx hb hl 1 rfl dX2_hasJudge_4 rfl ?_
  refine x_iconst hx hb dX2_hasJudge_5 ?_
  refine x_icmp_ge (tgt := 23) hx hb rj (by decide) dX2_hasJudge_6 (by decide) (fun c2 => ?_) (fun c2 => ?_)
  · skip
    refine x_iconst hx hb dX2_hasJudge_23 ?_
    rw [eQ]
    exact x_zret hx hb hr hlk hW (by omega) ⟨rfl, by omega⟩ dX2_hasJudge_24
  refine x_aload_n hx hb hl 0 rfl dX2_hasJudge_9 rfl ?_
  refine x_get (j := 0) (v := .ref (h0 + (d + 1))) hx hb hown hT hE hW cls_X2 (Or.inl (by omega)) (so_day0 h0 g hd _) (by decide) rfl wq383 dX2_hasJudge_10 ?_
  refine x_iload_n hx hb hl 1 rfl dX2_hasJudge_13 rfl ?_
  refine x_iald hx hb hE hW (Or.inl (by omega)) (sa_day1 h0 g hd _) (by omega) (by decide) dX2_hasJudge_14 ?_
  refine x_rd hW (fun x3 ex3 rx3 => ?_)
  have fx3 : x3 = (-1) := by rw [ex3, p0]
  refine x_iconst hx hb dX2_hasJudge_15 ?_
  refine x_icmp_eq (tgt := 23) hx hb rx3 (by decide) dX2_hasJudge_16 (by decide) (fun c4 => ?_) (fun c4 => False.elim (by omega))
  refine x_iconst hx hb dX2_hasJudge_23 ?_
  rw [eQ]
  exact x_zret hx hb hr hlk hW (by omega) ⟨rfl, by omega⟩ dX2_hasJudge_24
set_option maxHeartbeats 4000000 in
set_option maxRecDepth 100000 in
theorem c_X2_hasFelon (l : Launch) (D : va_G) (g : xG) (T : Nat × Nat × Nat) (h0 : Nat) (s0 : xS) (hσ : xRR s0) (d : Nat) (hd : xDay d) (f : Int) (rf : xR f) (p0 : s0 (d + 6) = fun _ => (-1)) : Met l yX2_hasFelon (xws yX2_hasFelon cX2_hasFelon 2 (some .boolean)) { frames := 0, cells := 0, slots := 0, locals := 0 } (xP [.ref (h0 + d), .int (xJ f)] D g T h0 s0) (xQi D g h0 (fun r τ => s0 = τ ∧ (r = 0))) 0 0 (xA h0) := by
  refine x_met hσ (by decide) (Nat.le_of_ble_eq_true rfl) ?_
  intro p e s m args below meth c hx hb hr hml hown hT hlk hnm hE hW ls hl
  have hl : lv_has ls 2 [(0, .ref (h0 + d)), (1, .int (xJ f))] := hl
  obtain ⟨Q, eQ⟩ : ∃ Q, Q = MQ below (xQi D g h0 (fun r τ => s0 = τ ∧ (r = 0))) args s 0 0 (xA h0) := ⟨_, rfl⟩
  rw [← eQ]
  generalize hHe : ([] : List Loc) = locs at hW ⊢
  obtain ⟨H, eH⟩ : ∃ H, H = s.heap := ⟨_, rfl⟩
  rw [← eH] at hW ⊢
  have hbd : (136 ≤ d ∧ d < 209) ∧ (d ≤ 146 ∨ 158 ≤ d) := by unfold xDay at hd; omega
  refine x_iload_n hx hb hl 1 rfl dX2_hasFelon_0 rfl ?_
  refine x_if_lt (tgt := 24) hx hb rf dX2_hasFelon_1 (by decide) (fun c1 => ?_) (fun c1 => ?_)
  · skip
    refine x_iconst hx hb dX2_hasFelon_24 ?_
    rw [eQ]
    exact x_zret hx hb hr hlk hW (by omega) ⟨rfl, by omega⟩ dX2_hasFelon_25
  refine x_iload_n hx hb hl 1 rfl dX2_hasFelon_4 rfl ?_
  refine x_bipush hx hb dX2_hasFelon_5 (by decide) ?_
  refine x_icmp_ge (tgt := 24) hx hb rf (by decide) dX2_hasFelon_7 (by decide) (fun c2 => ?_) (fun c2 => ?_)
  · skip
    refine x_iconst hx hb dX2_hasFelon_24 ?_
    rw [eQ]
    exact x_zret hx hb hr hlk hW (by omega) ⟨rfl, by omega⟩ dX2_hasFelon_25
  refine x_aload_n hx hb hl 0 rfl dX2_hasFelon_10 rfl ?_
  refine x_get (j := 3) (v := .ref (h0 + (d + 6))) hx hb hown hT hE hW cls_X2 (Or.inl (by omega)) (so_day0 h0 g hd _) (by decide) rfl wq388 dX2_hasFelon_11 ?_
  refine x_iload_n hx hb hl 1 rfl dX2_hasFelon_14 rfl ?_
  refine x_iald hx hb hE hW (Or.inl (by omega)) (sa_day6 h0 g hd _) (by omega) (by decide) dX2_hasFelon_15 ?_
  refine x_rd hW (fun x3 ex3 rx3 => ?_)
  have fx3 : x3 = (-1) := by rw [ex3, p0]
  refine x_iconst hx hb dX2_hasFelon_16 ?_
  refine x_icmp_eq (tgt := 24) hx hb rx3 (by decide) dX2_hasFelon_17 (by decide) (fun c4 => ?_) (fun c4 => False.elim (by omega))
  refine x_iconst hx hb dX2_hasFelon_24 ?_
  rw [eQ]
  exact x_zret hx hb hr hlk hW (by omega) ⟨rfl, by omega⟩ dX2_hasFelon_25
set_option maxHeartbeats 4000000 in
set_option maxRecDepth 100000 in
theorem c_X2_mustServe (l : Launch) (D : va_G) (g : xG) (T : Nat × Nat × Nat) (h0 : Nat) (s0 : xS) (hσ : xRR s0) (d : Nat) (hd : xDay d) (f : Int) (rf : xR f) (p0 : s0 (d + 6) = fun _ => (-1)) : Met l yX2_mustServe (xws yX2_mustServe cX2_mustServe 2 (some .boolean)) { frames := 1, cells := 0, slots := 0, locals := 21 } (xP [.ref (h0 + d), .int (xJ f)] D g T h0 s0) (xQi D g h0 (fun r τ => s0 = τ ∧ (r = 0))) 0 0 (xA h0) := by
  refine x_met hσ (by decide) (Nat.le_of_ble_eq_true rfl) ?_
  intro p e s m args below meth c hx hb hr hml hown hT hlk hnm hE hW ls hl
  have hl : lv_has ls 2 [(0, .ref (h0 + d)), (1, .int (xJ f))] := hl
  obtain ⟨Q, eQ⟩ : ∃ Q, Q = MQ below (xQi D g h0 (fun r τ => s0 = τ ∧ (r = 0))) args s 0 0 (xA h0) := ⟨_, rfl⟩
  rw [← eQ]
  generalize hHe : ([] : List Loc) = locs at hW ⊢
  obtain ⟨H, eH⟩ : ∃ H, H = s.heap := ⟨_, rfl⟩
  rw [← eH] at hW ⊢
  have hbd : (136 ≤ d ∧ d < 209) ∧ (d ≤ 146 ∨ 158 ≤ d) := by unfold xDay at hd; omega
  refine x_aload_n hx hb hl 0 rfl dX2_mustServe_0 rfl ?_
  refine x_iload_n hx hb hl 1 rfl dX2_mustServe_1 rfl ?_
  refine x_goi (x_runV (As := [.int (xJ f)]) hx hb hml hown hT hE hW hl.1 (Or.inl (by omega)) (so_day0 h0 g hd _) rfl cf_X2_hasFelon wq862 wq53 wq860 (c_X2_hasFelon l D g T h0 s0 hW.2.1 d hd f rf p0) ⟨rfl, rfl, ⟨by decide, by decide⟩, ⟨by decide, by decide⟩⟩ rfl rfl (Nat.le_of_ble_eq_true rfl) dX2_mustServe_2) hW (fun x1 s2 H locs rx1 hp3 hW => ?_)
  obtain ⟨es2, hp3⟩ := hp3
  subst es2
  have ghp3 := hp3
  refine x_if_eq (tgt := 30) hx hb rx1 dX2_mustServe_5 (by decide) (fun c4 => ?_) (fun c4 => False.elim (by omega))
  refine x_iconst hx hb dX2_mustServe_30 ?_
  rw [eQ]
  exact x_zret hx hb hr hlk hW (by omega) ⟨rfl, by omega⟩ dX2_mustServe_31
set_option maxHeartbeats 4000000 in
set_option maxRecDepth 100000 in
theorem c_X2_draw (l : Launch) (D : va_G) (g : xG) (T : Nat × Nat × Nat) (h0 : Nat) (s0 : xS) (hσ : xRR s0) (d : Nat) (hd : xDay d) (z9 : Int) (z10 : Int) (z11 : Int) (z7 : Int) (p0 : 0 ≤ s0 d 8 ∧ s0 d 8 ≤ 65535) (p1 : 0 ≤ s0 d 7 ∧ s0 d 7 ≤ 9999) (p2 : s0 d 9 = z9) (p3 : s0 d 10 = z10) (p4 : s0 d 11 = z11) (p5 : s0 d 7 = z7) : Met l yX2_draw (xws yX2_draw cX2_draw 1 (some .int)) { frames := 0, cells := 0, slots := 0, locals := 0 } (xP [.ref (h0 + d)] D g T h0 s0) (xQi D g h0 (fun r τ => xFr (fun k => k = d) s0 τ ∧ (((0 ≤ τ d 8 ∧ τ d 8 ≤ 65535) ∧ (0 ≤ τ d 7 ∧ τ d 7 ≤ 9999) ∧ (τ d 9 = z9) ∧ (τ d 10 = z10) ∧ (τ d 11 = z11) ∧ (τ d 7 = z7) ∧ True) ∧ (0 ≤ r ∧ r < 10)))) 0 0 (xA h0) := by
  refine x_met hσ (by decide) (Nat.le_of_ble_eq_true rfl) ?_
  intro p e s m args below meth c hx hb hr hml hown hT hlk hnm hE hW ls hl
  have hl : lv_has ls 1 [(0, .ref (h0 + d))] := hl
  obtain ⟨Q, eQ⟩ : ∃ Q, Q = MQ below (xQi D g h0 (fun r τ => xFr (fun k => k = d) s0 τ ∧ (((0 ≤ τ d 8 ∧ τ d 8 ≤ 65535) ∧ (0 ≤ τ d 7 ∧ τ d 7 ≤ 9999) ∧ (τ d 9 = z9) ∧ (τ d 10 = z10) ∧ (τ d 11 = z11) ∧ (τ d 7 = z7) ∧ True) ∧ (0 ≤ r ∧ r < 10)))) args s 0 0 (xA h0) := ⟨_, rfl⟩
  rw [← eQ]
  generalize hHe : ([] : List Loc) = locs at hW ⊢
  obtain ⟨H, eH⟩ : ∃ H, H = s.heap := ⟨_, rfl⟩
  rw [← eH] at hW ⊢
  have hF : xFr (fun k => k = d) s0 s0 := xFr.rf
  have hbd : (136 ≤ d ∧ d < 209) ∧ (d ≤ 146 ∨ 158 ≤ d) := by unfold xDay at hd; omega
  refine x_aload_n hx hb hl 0 rfl dX2_draw_0 rfl ?_
  refine x_sipush hx hb dX2_draw_1 (by decide) ?_
  refine x_aload_n hx hb hl 0 rfl dX2_draw_4 rfl ?_
  refine x_get (j := 8) (v := .int (xJ (s0 d 8))) hx hb hown hT hE hW cls_X2 (Or.inl (by omega)) (so_day0 h0 g hd _) (by decide) rfl wq404 dX2_draw_5 ?_
  refine x_rd hW (fun x1 ex1 rx1 => ?_)
  have qx1 : 0 ≤ x1 ∧ x1 ≤ 65535 := by rw [ex1]; exact p0
  refine x_imul hx hb dX2_draw_8 ?_
  refine x_sipush hx hb dX2_draw_9 (by decide) ?_
  refine x_iadd hx hb dX2_draw_12 ?_
  refine lv_ldc (v := xJ 65536) hx hb hown (hT _ wq799) dX2_draw_13 ?_
  refine x_irem hx hb (by omega) (by decide) (by omega) (by decide) dX2_draw_15 ?_
  refine x_put (j := 8) hx hb hown hT hE hW cls_X2 (by omega) (fun σ => so_day0 h0 g hd σ) (by decide) (st_X2_8 h0 s0 d (((25173 * x1) + 13849) % 65536)) (ln_X2_8 h0 _ _) wq404 rfl rfl rfl (by omega) dX2_draw_16 (fun H locs s2 es2 hW => ?_)
  have q3 : 0 ≤ s2 d 8 ∧ s2 d 8 ≤ 65535 := by rw [es2, xU_s]; omega
  have q4 : 0 ≤ s2 d 7 ∧ s2 d 7 ≤ 9999 := by rw [es2, xU_j _ _ (by decide)]; exact p1
  have q5 : s2 d 9 = z9 := by rw [es2, xU_j _ _ (by decide)]; exact p2
  have q6 : s2 d 10 = z10 := by rw [es2, xU_j _ _ (by decide)]; exact p3
  have q7 : s2 d 11 = z11 := by rw [es2, xU_j _ _ (by decide)]; exact p4
  have q8 : s2 d 7 = z7 := by rw [es2, xU_j _ _ (by decide)]; exact p5
  have hF9 := hF.put es2 (by omega)
  refine x_aload_n hx hb hl 0 rfl dX2_draw_19 rfl ?_
  refine x_get (j := 8) (v := .int (xJ (s2 d 8))) hx hb hown hT hE hW cls_X2 (Or.inl (by omega)) (so_day0 h0 g hd _) (by decide) rfl wq404 dX2_draw_20 ?_
  refine x_rd hW (fun x10 ex10 rx10 => ?_)
  have qx10 : 0 ≤ x10 ∧ x10 ≤ 65535 := by rw [ex10]; exact q3
  refine x_bipush hx hb dX2_draw_23 (by decide) ?_
  refine x_irem hx hb rx10 (by decide) (by omega) (by decide) dX2_draw_25 ?_
  rw [eQ]
  exact x_iret hx hb hr hlk hW (by omega) ⟨hF9, ⟨q3, q4, q5, q6, q7, q8, trivial⟩, by omega⟩ dX2_draw_26
set_option maxHeartbeats 4000000 in
set_option maxRecDepth 100000 in
theorem c_X2_owedByAll (l : Launch) (D : va_G) (g : xG) (T : Nat × Nat × Nat) (h0 : Nat) (s0 : xS) (hσ : xRR s0) (d : Nat) (hd : xDay d) (p0 : s0 (d + 7) = fun _ => 0) : Met l yX2_owedByAll (xws yX2_owedByAll cX2_owedByAll 3 (some .int)) { frames := 0, cells := 0, slots := 0, locals := 0 } (xP [.ref (h0 + d)] D g T h0 s0) (xQi D g h0 (fun r τ => s0 = τ ∧ (r = 0))) 0 0 (xA h0) := by
  refine x_met hσ (by decide) (Nat.le_of_ble_eq_true rfl) ?_
  intro p e s m args below meth c hx hb hr hml hown hT hlk hnm hE hW ls hl
  have hl : lv_has ls 3 [(0, .ref (h0 + d))] := hl
  obtain ⟨Q, eQ⟩ : ∃ Q, Q = MQ below (xQi D g h0 (fun r τ => s0 = τ ∧ (r = 0))) args s 0 0 (xA h0) := ⟨_, rfl⟩
  rw [← eQ]
  generalize hHe : ([] : List Loc) = locs at hW ⊢
  obtain ⟨H, eH⟩ : ∃ H, H = s.heap := ⟨_, rfl⟩
  rw [← eH] at hW ⊢
  have hbd : (136 ≤ d ∧ d < 209) ∧ (d ≤ 146 ∨ 158 ≤ d) := by unfold xDay at hd; omega
  refine x_iconst hx hb dX2_owedByAll_0 ?_
  refine lv_istore_n (lv' := [(1, .int (xJ 0)), (0, .ref (h0 + d))]) hx hb dX2_owedByAll_1 rfl hl (by decide) rfl (fun ls hl => ?_)
  refine x_iconst hx hb dX2_owedByAll_2 ?_
  refine lv_istore_n (lv' := [(2, .int (xJ 0)), (1, .int (xJ 0)), (0, .ref (h0 + d))]) hx hb dX2_owedByAll_3 rfl hl (by decide) rfl (fun ls hl => ?_)
  have L4 : ∀ (fu : Nat) (i1_4 : Int) (i2_4 : Int) (ls : Array Slot), (xR i1_4) → (xR i2_4) → (0 ≤ i2_4) → (i1_4 = 0) → (10 - i2_4).toNat < fu → lv_has ls 3 [(0, .ref (h0 + d)), (1, .int (xJ i1_4)), (2, .int (xJ i2_4))] → W p l e { frames := 0, cells := 0, slots := 0, locals := 0 } s m args below meth c H locs 0 0 Q (F0 m 4 ls []) := by
    intro fu
    induction fu with
    | zero => intro i1_4 i2_4 ls ri1_4 ri2_4 v4_0 v4_1 hm; exact absurd hm (Nat.not_lt_zero _)
    | succ fu ih4 =>
      intro i1_4 i2_4 ls ri1_4 ri2_4 v4_0 v4_1 hm  hl
      refine x_iload_n hx hb hl 2 rfl dX2_owedByAll_4 rfl ?_
      refine x_bipush hx hb dX2_owedByAll_5 (by decide) ?_
      refine x_icmp_ge (tgt := 25) hx hb ri2_4 (by decide) dX2_owedByAll_7 (by decide) (fun c1 => ?_) (fun c1 => ?_)
      · skip
        refine x_iload_n hx hb hl 1 rfl dX2_owedByAll_25 rfl ?_
        rw [eQ]
        exact x_iret hx hb hr hlk hW ri1_4 ⟨rfl, by omega⟩ dX2_owedByAll_26
      refine x_iload_n hx hb hl 1 rfl dX2_owedByAll_10 rfl ?_
      refine x_aload_n hx hb hl 0 rfl dX2_owedByAll_11 rfl ?_
      refine x_get (j := 4) (v := .ref (h0 + (d + 7))) hx hb hown hT hE hW cls_X2 (Or.inl (by omega)) (so_day0 h0 g hd _) (by decide) rfl wq392 dX2_owedByAll_12 ?_
      refine x_iload_n hx hb hl 2 rfl dX2_owedByAll_15 rfl ?_
      refine x_iald hx hb hE hW (Or.inl (by omega)) (sa_day7 h0 g hd _) (by omega) (by decide) dX2_owedByAll_16 ?_
      refine x_rd hW (fun x2 ex2 rx2 => ?_)
      have fx2 : x2 = 0 := by rw [ex2, p0]
      refine x_iadd hx hb dX2_owedByAll_17 ?_
      refine x_nm (fun x3 ex3 => ?_)
      refine lv_istore_n (lv' := [(1, .int (xJ x3)), (0, .ref (h0 + d)), (2, .int (xJ i2_4))]) hx hb dX2_owedByAll_18 rfl hl (by decide) rfl (fun ls hl => ?_)
      refine x_iinc (lv' := [(2, .int (xJ (i2_4 + 1))), (1, .int (xJ x3)), (0, .ref (h0 + d))]) hx hb hl 2 rfl dX2_owedByAll_19 (by decide) rfl (fun ls hl => ?_)
      refine lv_goto (tgt := 4) hx hb dX2_owedByAll_22 (by decide) ?_
      exact ih4 x3 (i2_4 + 1) ls (by omega) (by omega) (by omega) (by omega) (by omega)  (lv_sub hl [2, 1, 0] rfl)
  exact L4 ((10 - 0 : Int).toNat + 1) 0 0 ls (by decide) (by decide) (by omega) (by omega) (Nat.lt_succ_self _)  (lv_sub hl [2, 1, 0] rfl)
set_option maxHeartbeats 4000000 in
set_option maxRecDepth 100000 in
theorem c_X2_howManyDrowned (l : Launch) (D : va_G) (g : xG) (T : Nat × Nat × Nat) (h0 : Nat) (s0 : xS) (hσ : xRR s0) (d : Nat) (hd : xDay d) (p0 : s0 (d + 6) = fun _ => (-1)) : Met l yX2_howManyDrowned (xws yX2_howManyDrowned cX2_howManyDrowned 3 (some .int)) { frames := 1, cells := 0, slots := 0, locals := 21 } (xP [.ref (h0 + d)] D g T h0 s0) (xQi D g h0 (fun r τ => s0 = τ ∧ (r = 0))) 0 0 (xA h0) := by
  refine x_met hσ (by decide) (Nat.le_of_ble_eq_true rfl) ?_
  intro p e s m args below meth c hx hb hr hml hown hT hlk hnm hE hW ls hl
  have hl : lv_has ls 3 [(0, .ref (h0 + d))] := hl
  obtain ⟨Q, eQ⟩ : ∃ Q, Q = MQ below (xQi D g h0 (fun r τ => s0 = τ ∧ (r = 0))) args s 0 0 (xA h0) := ⟨_, rfl⟩
  rw [← eQ]
  generalize hHe : ([] : List Loc) = locs at hW ⊢
  obtain ⟨H, eH⟩ : ∃ H, H = s.heap := ⟨_, rfl⟩
  rw [← eH] at hW ⊢
  have hbd : (136 ≤ d ∧ d < 209) ∧ (d ≤ 146 ∨ 158 ≤ d) := by unfold xDay at hd; omega
  refine x_iconst hx hb dX2_howManyDrowned_0 ?_
  refine lv_istore_n (lv' := [(1, .int (xJ 0)), (0, .ref (h0 + d))]) hx hb dX2_howManyDrowned_1 rfl hl (by decide) rfl (fun ls hl => ?_)
  refine x_iconst hx hb dX2_howManyDrowned_2 ?_
  refine lv_istore_n (lv' := [(2, .int (xJ 0)), (1, .int (xJ 0)), (0, .ref (h0 + d))]) hx hb dX2_howManyDrowned_3 rfl hl (by decide) rfl (fun ls hl => ?_)
  have L4 : ∀ (fu : Nat) (i1_4 : Int) (i2_4 : Int) (H : Heap) (locs : List Loc) (ls : Array Slot), (xR i1_4) → (xR i2_4) → (0 ≤ i2_4) → (i1_4 = 0) → (10 - i2_4).toNat < fu → xW D g h0 s H locs s0 → lv_has ls 3 [(0, .ref (h0 + d)), (1, .int (xJ i1_4)), (2, .int (xJ i2_4))] → W p l e { frames := 1, cells := 0, slots := 0, locals := 21 } s m args below meth c H locs 0 0 Q (F0 m 4 ls []) := by
    intro fu
    induction fu with
    | zero => intro i1_4 i2_4 H locs ls ri1_4 ri2_4 v4_0 v4_1 hm; exact absurd hm (Nat.not_lt_zero _)
    | succ fu ih4 =>
      intro i1_4 i2_4 H locs ls ri1_4 ri2_4 v4_0 v4_1 hm hW hl
      refine x_iload_n hx hb hl 2 rfl dX2_howManyDrowned_4 rfl ?_
      refine x_bipush hx hb dX2_howManyDrowned_5 (by decide) ?_
      refine x_icmp_ge (tgt := 41) hx hb ri2_4 (by decide) dX2_howManyDrowned_7 (by decide) (fun c1 => ?_) (fun c1 => ?_)
      · skip
        refine x_iload_n hx hb hl 1 rfl dX2_howManyDrowned_41 rfl ?_
        rw [eQ]
        exact x_iret hx hb hr hlk hW ri1_4 ⟨rfl, by omega⟩ dX2_howManyDrowned_42
      refine x_iload_n hx hb hl 1 rfl dX2_howManyDrowned_10 rfl ?_
      refine x_aload_n hx hb hl 0 rfl dX2_howManyDrowned_11 rfl ?_
      refine x_iload_n hx hb hl 2 rfl dX2_howManyDrowned_12 rfl ?_
      refine x_goi (x_runV (As := [.int (xJ i2_4)]) hx hb hml hown hT hE hW hl.1 (Or.inl (by omega)) (so_day0 h0 g hd _) rfl cf_X2_hasFelon wq862 wq53 wq860 (c_X2_hasFelon l D g T h0 s0 hW.2.1 d hd i2_4 ri2_4 p0) ⟨rfl, rfl, ⟨by decide, by decide⟩, ⟨by decide, by decide⟩⟩ rfl rfl (Nat.le_of_ble_eq_true rfl) dX2_howManyDrowned_13) hW (fun x2 s3 H locs rx2 hp4 hW => ?_)
      obtain ⟨es3, hp4⟩ := hp4
      subst es3
      have ghp4 := hp4
      refine x_if_eq (tgt := 32) hx hb rx2 dX2_howManyDrowned_16 (by decide) (fun c5 => ?_) (fun c5 => False.elim (by omega))
      refine x_iconst hx hb dX2_howManyDrowned_32 ?_
      refine x_iadd hx hb dX2_howManyDrowned_33 ?_
      refine x_nm (fun x6 ex6 => ?_)
      refine lv_istore_n (lv' := [(1, .int (xJ x6)), (0, .ref (h0 + d)), (2, .int (xJ i2_4))]) hx hb dX2_howManyDrowned_34 rfl hl (by decide) rfl (fun ls hl => ?_)
      refine x_iinc (lv' := [(2, .int (xJ (i2_4 + 1))), (1, .int (xJ x6)), (0, .ref (h0 + d))]) hx hb hl 2 rfl dX2_howManyDrowned_35 (by decide) rfl (fun ls hl => ?_)
      refine lv_goto (tgt := 4) hx hb dX2_howManyDrowned_38 (by decide) ?_
      exact ih4 x6 (i2_4 + 1) H locs ls (by omega) (by omega) (by omega) (by omega) (by omega) hW (lv_sub hl [2, 1, 0] rfl)
  exact L4 ((10 - 0 : Int).toNat + 1) 0 0 H locs ls (by decide) (by decide) (by omega) (by omega) (Nat.lt_succ_self _) hW (lv_sub hl [2, 1, 0] rfl)
set_option maxHeartbeats 4000000 in
set_option maxRecDepth 100000 in
theorem c_X2_howManyOweNothing (l : Launch) (D : va_G) (g : xG) (T : Nat × Nat × Nat) (h0 : Nat) (s0 : xS) (hσ : xRR s0) (d : Nat) (hd : xDay d) (p0 : s0 (d + 6) = fun _ => (-1)) : Met l yX2_howManyOweNothing (xws yX2_howManyOweNothing cX2_howManyOweNothing 3 (some .int)) { frames := 1, cells := 0, slots := 0, locals := 21 } (xP [.ref (h0 + d)] D g T h0 s0) (xQi D g h0 (fun r τ => s0 = τ ∧ (r = 0))) 0 0 (xA h0) := by
  refine x_met hσ (by decide) (Nat.le_of_ble_eq_true rfl) ?_
  intro p e s m args below meth c hx hb hr hml hown hT hlk hnm hE hW ls hl
  have hl : lv_has ls 3 [(0, .ref (h0 + d))] := hl
  obtain ⟨Q, eQ⟩ : ∃ Q, Q = MQ below (xQi D g h0 (fun r τ => s0 = τ ∧ (r = 0))) args s 0 0 (xA h0) := ⟨_, rfl⟩
  rw [← eQ]
  generalize hHe : ([] : List Loc) = locs at hW ⊢
  obtain ⟨H, eH⟩ : ∃ H, H = s.heap := ⟨_, rfl⟩
  rw [← eH] at hW ⊢
  have hbd : (136 ≤ d ∧ d < 209) ∧ (d ≤ 146 ∨ 158 ≤ d) := by unfold xDay at hd; omega
  refine x_iconst hx hb dX2_howManyOweNothing_0 ?_
  refine lv_istore_n (lv' := [(1, .int (xJ 0)), (0, .ref (h0 + d))]) hx hb dX2_howManyOweNothing_1 rfl hl (by decide) rfl (fun ls hl => ?_)
  refine x_iconst hx hb dX2_howManyOweNothing_2 ?_
  refine lv_istore_n (lv' := [(2, .int (xJ 0)), (1, .int (xJ 0)), (0, .ref (h0 + d))]) hx hb dX2_howManyOweNothing_3 rfl hl (by decide) rfl (fun ls hl => ?_)
  have L4 : ∀ (fu : Nat) (i1_4 : Int) (i2_4 : Int) (H : Heap) (locs : List Loc) (ls : Array Slot), (xR i1_4) → (xR i2_4) → (0 ≤ i2_4) → (i1_4 = 0) → (10 - i2_4).toNat < fu → xW D g h0 s H locs s0 → lv_has ls 3 [(0, .ref (h0 + d)), (1, .int (xJ i1_4)), (2, .int (xJ i2_4))] → W p l e { frames := 1, cells := 0, slots := 0, locals := 21 } s m args below meth c H locs 0 0 Q (F0 m 4 ls []) := by
    intro fu
    induction fu with
    | zero => intro i1_4 i2_4 H locs ls ri1_4 ri2_4 v4_0 v4_1 hm; exact absurd hm (Nat.not_lt_zero _)
    | succ fu ih4 =>
      intro i1_4 i2_4 H locs ls ri1_4 ri2_4 v4_0 v4_1 hm hW hl
      refine x_iload_n hx hb hl 2 rfl dX2_howManyOweNothing_4 rfl ?_
      refine x_bipush hx hb dX2_howManyOweNothing_5 (by decide) ?_
      refine x_icmp_ge (tgt := 41) hx hb ri2_4 (by decide) dX2_howManyOweNothing_7 (by decide) (fun c1 => ?_) (fun c1 => ?_)
      · skip
        refine x_iload_n hx hb hl 1 rfl dX2_howManyOweNothing_41 rfl ?_
        rw [eQ]
        exact x_iret hx hb hr hlk hW ri1_4 ⟨rfl, by omega⟩ dX2_howManyOweNothing_42
      refine x_iload_n hx hb hl 1 rfl dX2_howManyOweNothing_10 rfl ?_
      refine x_aload_n hx hb hl 0 rfl dX2_howManyOweNothing_11 rfl ?_
      refine x_iload_n hx hb hl 2 rfl dX2_howManyOweNothing_12 rfl ?_
      refine x_goi (x_runV (As := [.int (xJ i2_4)]) hx hb hml hown hT hE hW hl.1 (Or.inl (by omega)) (so_day0 h0 g hd _) rfl cf_X2_hasFelon wq862 wq53 wq860 (c_X2_hasFelon l D g T h0 s0 hW.2.1 d hd i2_4 ri2_4 p0) ⟨rfl, rfl, ⟨by decide, by decide⟩, ⟨by decide, by decide⟩⟩ rfl rfl (Nat.le_of_ble_eq_true rfl) dX2_howManyOweNothing_13) hW (fun x2 s3 H locs rx2 hp4 hW => ?_)
      obtain ⟨es3, hp4⟩ := hp4
      subst es3
      have ghp4 := hp4
      refine x_if_eq (tgt := 32) hx hb rx2 dX2_howManyOweNothing_16 (by decide) (fun c5 => ?_) (fun c5 => False.elim (by omega))
      refine x_iconst hx hb dX2_howManyOweNothing_32 ?_
      refine x_iadd hx hb dX2_howManyOweNothing_33 ?_
      refine x_nm (fun x6 ex6 => ?_)
      refine lv_istore_n (lv' := [(1, .int (xJ x6)), (0, .ref (h0 + d)), (2, .int (xJ i2_4))]) hx hb dX2_howManyOweNothing_34 rfl hl (by decide) rfl (fun ls hl => ?_)
      refine x_iinc (lv' := [(2, .int (xJ (i2_4 + 1))), (1, .int (xJ x6)), (0, .ref (h0 + d))]) hx hb hl 2 rfl dX2_howManyOweNothing_35 (by decide) rfl (fun ls hl => ?_)
      refine lv_goto (tgt := 4) hx hb dX2_howManyOweNothing_38 (by decide) ?_
      exact ih4 x6 (i2_4 + 1) H locs ls (by omega) (by omega) (by omega) (by omega) (by omega) hW (lv_sub hl [2, 1, 0] rfl)
  exact L4 ((10 - 0 : Int).toNat + 1) 0 0 H locs ls (by decide) (by decide) (by omega) (by omega) (Nat.lt_succ_self _) hW (lv_sub hl [2, 1, 0] rfl)
set_option maxHeartbeats 4000000 in
set_option maxRecDepth 100000 in
theorem c_X2_clearCounts (l : Launch) (D : va_G) (g : xG) (T : Nat × Nat × Nat) (h0 : Nat) (s0 : xS) (hσ : xRR s0) (d : Nat) (hd : xDay d) (p0 : 0 ≤ s0 d 7 ∧ s0 d 7 ≤ 9999) (p1 : 0 ≤ s0 d 8 ∧ s0 d 8 ≤ 65535) : Met l yX2_clearCounts (xws yX2_clearCounts cX2_clearCounts 1 none) { frames := 0, cells := 0, slots := 0, locals := 0 } (xP [.ref (h0 + d)] D g T h0 s0) (xQv D g h0 (fun τ => xFr (fun k => k = d) s0 τ ∧ (((0 ≤ τ d 7 ∧ τ d 7 ≤ 9999) ∧ (0 ≤ τ d 8 ∧ τ d 8 ≤ 65535) ∧ (τ d 9 = 0) ∧ (τ d 10 = 0) ∧ (τ d 11 = 0) ∧ True) ∧ (True)))) 0 0 (xA h0) := by
  refine x_met hσ (by decide) (Nat.le_of_ble_eq_true rfl) ?_
  intro p e s m args below meth c hx hb hr hml hown hT hlk hnm hE hW ls hl
  have hl : lv_has ls 1 [(0, .ref (h0 + d))] := hl
  obtain ⟨Q, eQ⟩ : ∃ Q, Q = MQ below (xQv D g h0 (fun τ => xFr (fun k => k = d) s0 τ ∧ (((0 ≤ τ d 7 ∧ τ d 7 ≤ 9999) ∧ (0 ≤ τ d 8 ∧ τ d 8 ≤ 65535) ∧ (τ d 9 = 0) ∧ (τ d 10 = 0) ∧ (τ d 11 = 0) ∧ True) ∧ (True)))) args s 0 0 (xA h0) := ⟨_, rfl⟩
  rw [← eQ]
  generalize hHe : ([] : List Loc) = locs at hW ⊢
  obtain ⟨H, eH⟩ : ∃ H, H = s.heap := ⟨_, rfl⟩
  rw [← eH] at hW ⊢
  have hF : xFr (fun k => k = d) s0 s0 := xFr.rf
  have hbd : (136 ≤ d ∧ d < 209) ∧ (d ≤ 146 ∨ 158 ≤ d) := by unfold xDay at hd; omega
  refine x_aload_n hx hb hl 0 rfl dX2_clearCounts_0 rfl ?_
  refine x_iconst hx hb dX2_clearCounts_1 ?_
  refine x_put (j := 9) hx hb hown hT hE hW cls_X2 (by omega) (fun σ => so_day0 h0 g hd σ) (by decide) (st_X2_9 h0 s0 d 0) (ln_X2_9 h0 _ _) wq406 rfl rfl rfl (by decide) dX2_clearCounts_2 (fun H locs s1 es1 hW => ?_)
  have q2 : 0 ≤ s1 d 7 ∧ s1 d 7 ≤ 9999 := by rw [es1, xU_j _ _ (by decide)]; exact p0
  have q3 : 0 ≤ s1 d 8 ∧ s1 d 8 ≤ 65535 := by rw [es1, xU_j _ _ (by decide)]; exact p1
  have q4 : s1 d 9 = 0 := by rw [es1, xU_s]
  have hF5 := hF.put es1 (by omega)
  refine x_aload_n hx hb hl 0 rfl dX2_clearCounts_5 rfl ?_
  refine x_iconst hx hb dX2_clearCounts_6 ?_
  refine x_put (j := 10) hx hb hown hT hE hW cls_X2 (by omega) (fun σ => so_day0 h0 g hd σ) (by decide) (st_X2_10 h0 s1 d 0) (ln_X2_10 h0 _ _) wq409 rfl rfl rfl (by decide) dX2_clearCounts_7 (fun H locs s6 es6 hW => ?_)
  have q7 : 0 ≤ s6 d 7 ∧ s6 d 7 ≤ 9999 := by rw [es6, xU_j _ _ (by decide)]; exact q2
  have q8 : 0 ≤ s6 d 8 ∧ s6 d 8 ≤ 65535 := by rw [es6, xU_j _ _ (by decide)]; exact q3
  have q9 : s6 d 9 = 0 := by rw [es6, xU_j _ _ (by decide)]; exact q4
  have q10 : s6 d 10 = 0 := by rw [es6, xU_s]
  have hF11 := hF5.put es6 (by omega)
  refine x_aload_n hx hb hl 0 rfl dX2_clearCounts_10 rfl ?_
  refine x_iconst hx hb dX2_clearCounts_11 ?_
  refine x_put (j := 11) hx hb hown hT hE hW cls_X2 (by omega) (fun σ => so_day0 h0 g hd σ) (by decide) (st_X2_11 h0 s6 d 0) (ln_X2_11 h0 _ _) wq412 rfl rfl rfl (by decide) dX2_clearCounts_12 (fun H locs s12 es12 hW => ?_)
  have q13 : 0 ≤ s12 d 7 ∧ s12 d 7 ≤ 9999 := by rw [es12, xU_j _ _ (by decide)]; exact q7
  have q14 : 0 ≤ s12 d 8 ∧ s12 d 8 ≤ 65535 := by rw [es12, xU_j _ _ (by decide)]; exact q8
  have q15 : s12 d 9 = 0 := by rw [es12, xU_j _ _ (by decide)]; exact q9
  have q16 : s12 d 10 = 0 := by rw [es12, xU_j _ _ (by decide)]; exact q10
  have q17 : s12 d 11 = 0 := by rw [es12, xU_s]
  have hF18 := hF11.put es12 (by omega)
  rw [eQ]
  exact x_vret hx hb hr hlk hW ⟨hF18, ⟨q13, q14, q15, q16, q17, trivial⟩, trivial⟩ dX2_clearCounts_15
end
section
theorem st_X2_7 (h0 : Nat) (σ : xS) (k : Nat) (a : Int) : xobj h0 (xU σ k 7 a) k 2 = (xobj h0 σ k 2).set 7 (.int (xJ a)) := by simp [xobj, xU]
theorem ln_X2_7 (h0 : Nat) (σ : xS) (k : Nat) : 7 < (xobj h0 σ k 2).length := by simp [xobj]
theorem wq386 : Cond.fieldLink "ShadowCourt$Day" (17) "ShadowCourt$Day" "walks" "[[I" ∈ xTB := xq 386 (by decide +kernel) rfl
theorem wq387 : Cond.fieldLink "ShadowCourt$Day" (20) "ShadowCourt$Day" "stepsDone" "[I" ∈ xTB := xq 387 (by decide +kernel) rfl
theorem wq395 : Cond.fieldLink "ShadowCourt$Day" (29) "ShadowCourt$Day" "away" "[I" ∈ xTB := xq 395 (by decide +kernel) rfl
theorem wq398 : Cond.fieldLink "ShadowCourt$Day" (32) "ShadowCourt$Day" "drowned" "[Z" ∈ xTB := xq 398 (by decide +kernel) rfl
theorem wq401 : Cond.fieldLink "ShadowCourt$Day" (36) "ShadowCourt$Day" "minute" "I" ∈ xTB := xq 401 (by decide +kernel) rfl
theorem dX10_bitsOfTold_0 : decode cX10_bitsOfTold 0 = .ok (.iconst 0, 1) := by decide +kernel
theorem dX10_bitsOfTold_1 : decode cX10_bitsOfTold 1 = .ok (.istore_n 1, 1) := by decide +kernel
theorem dX10_bitsOfTold_2 : decode cX10_bitsOfTold 2 = .ok (.iconst 0, 1) := by decide +kernel
theorem dX10_bitsOfTold_3 : decode cX10_bitsOfTold 3 = .ok (.istore_n 2, 1) := by decide +kernel
theorem dX10_bitsOfTold_4 : decode cX10_bitsOfTold 4 = .ok (.iload_n 2, 1) := by decide +kernel
theorem dX10_bitsOfTold_5 : decode cX10_bitsOfTold 5 = .ok (.aload_n 0, 1) := by decide +kernel
theorem dX10_bitsOfTold_6 : decode cX10_bitsOfTold 6 = .ok (.arraylength, 1) := by decide +kernel
theorem dX10_bitsOfTold_7 : decode cX10_bitsOfTold 7 = .ok (.if_icmp .ge 22, 3) := by decide +kernel
theorem dX10_bitsOfTold_10 : decode cX10_bitsOfTold 10 = .ok (.aload_n 0, 1) := by decide +kernel
theorem dX10_bitsOfTold_11 : decode cX10_bitsOfTold 11 = .ok (.iload_n 2, 1) := by decide +kernel
theorem dX10_bitsOfTold_12 : decode cX10_bitsOfTold 12 = .ok (.iaload, 1) := by decide +kernel
theorem dX10_bitsOfTold_13 : decode cX10_bitsOfTold 13 = .ok (.iconst (-1), 1) := by decide +kernel
theorem dX10_bitsOfTold_14 : decode cX10_bitsOfTold 14 = .ok (.if_icmp .eq 9, 3) := by decide +kernel
theorem dX10_bitsOfTold_17 : decode cX10_bitsOfTold 17 = .ok (.iload_n 1, 1) := by decide +kernel
theorem dX10_bitsOfTold_18 : decode cX10_bitsOfTold 18 = .ok (.iconst 1, 1) := by decide +kernel
theorem dX10_bitsOfTold_19 : decode cX10_bitsOfTold 19 = .ok (.iload_n 2, 1) := by decide +kernel
theorem dX10_bitsOfTold_20 : decode cX10_bitsOfTold 20 = .ok (.ishl, 1) := by decide +kernel
theorem dX10_bitsOfTold_21 : decode cX10_bitsOfTold 21 = .ok (.ior, 1) := by decide +kernel
theorem dX10_bitsOfTold_22 : decode cX10_bitsOfTold 22 = .ok (.istore_n 1, 1) := by decide +kernel
theorem dX10_bitsOfTold_23 : decode cX10_bitsOfTold 23 = .ok (.iinc 2 1, 3) := by decide +kernel
theorem dX10_bitsOfTold_26 : decode cX10_bitsOfTold 26 = .ok (.goto (-22), 3) := by decide +kernel
theorem dX10_bitsOfTold_29 : decode cX10_bitsOfTold 29 = .ok (.iload_n 1, 1) := by decide +kernel
theorem dX10_bitsOfTold_30 : decode cX10_bitsOfTold 30 = .ok (.ireturn, 1) := by decide +kernel
theorem dX10_holds_0 : decode cX10_holds 0 = .ok (.iconst 0, 1) := by decide +kernel
theorem dX10_holds_1 : decode cX10_holds 1 = .ok (.istore_n 2, 1) := by decide +kernel
theorem dX10_holds_2 : decode cX10_holds 2 = .ok (.iload_n 2, 1) := by decide +kernel
theorem dX10_holds_3 : decode cX10_holds 3 = .ok (.aload_n 0, 1) := by decide +kernel
theorem dX10_holds_4 : decode cX10_holds 4 = .ok (.arraylength, 1) := by decide +kernel
theorem dX10_holds_5 : decode cX10_holds 5 = .ok (.if_icmp .ge 18, 3) := by decide +kernel
theorem dX10_holds_8 : decode cX10_holds 8 = .ok (.aload_n 0, 1) := by decide +kernel
theorem dX10_holds_9 : decode cX10_holds 9 = .ok (.iload_n 2, 1) := by decide +kernel
theorem dX10_holds_10 : decode cX10_holds 10 = .ok (.iaload, 1) := by decide +kernel
theorem dX10_holds_11 : decode cX10_holds 11 = .ok (.iload_n 1, 1) := by decide +kernel
theorem dX10_holds_12 : decode cX10_holds 12 = .ok (.if_icmp .ne 5, 3) := by decide +kernel
theorem dX10_holds_15 : decode cX10_holds 15 = .ok (.iconst 1, 1) := by decide +kernel
theorem dX10_holds_16 : decode cX10_holds 16 = .ok (.ireturn, 1) := by decide +kernel
theorem dX10_holds_17 : decode cX10_holds 17 = .ok (.iinc 2 1, 3) := by decide +kernel
theorem dX10_holds_20 : decode cX10_holds 20 = .ok (.goto (-18), 3) := by decide +kernel
theorem dX10_holds_23 : decode cX10_holds 23 = .ok (.iconst 0, 1) := by decide +kernel
theorem dX10_holds_24 : decode cX10_holds 24 = .ok (.ireturn, 1) := by decide +kernel
theorem dX10_isIn_0 : decode cX10_isIn 0 = .ok (.iload_n 0, 1) := by decide +kernel
theorem dX10_isIn_1 : decode cX10_isIn 1 = .ok (.iload_n 1, 1) := by decide +kernel
theorem dX10_isIn_2 : decode cX10_isIn 2 = .ok (.if_icmp .lt 12, 3) := by decide +kernel
theorem dX10_isIn_5 : decode cX10_isIn 5 = .ok (.iload_n 0, 1) := by decide +kernel
theorem dX10_isIn_6 : decode cX10_isIn 6 = .ok (.iload_n 2, 1) := by decide +kernel
theorem dX10_isIn_7 : decode cX10_isIn 7 = .ok (.if_icmp .gt 7, 3) := by decide +kernel
theorem dX10_isIn_10 : decode cX10_isIn 10 = .ok (.iconst 1, 1) := by decide +kernel
theorem dX10_isIn_11 : decode cX10_isIn 11 = .ok (.goto 4, 3) := by decide +kernel
theorem dX10_isIn_14 : decode cX10_isIn 14 = .ok (.iconst 0, 1) := by decide +kernel
theorem dX10_isIn_15 : decode cX10_isIn 15 = .ok (.ireturn, 1) := by decide +kernel
theorem dX2_copyFrom_0 : decode cX2_copyFrom 0 = .ok (.iconst 0, 1) := by decide +kernel
theorem dX2_copyFrom_1 : decode cX2_copyFrom 1 = .ok (.istore_n 2, 1) := by decide +kernel
theorem dX2_copyFrom_2 : decode cX2_copyFrom 2 = .ok (.iload_n 2, 1) := by decide +kernel
theorem dX2_copyFrom_3 : decode cX2_copyFrom 3 = .ok (.iconst 2, 1) := by decide +kernel
theorem dX2_copyFrom_4 : decode cX2_copyFrom 4 = .ok (.if_icmp .ge 45, 3) := by decide +kernel
theorem dX2_copyFrom_7 : decode cX2_copyFrom 7 = .ok (.aload_n 0, 1) := by decide +kernel
theorem dX2_copyFrom_8 : decode cX2_copyFrom 8 = .ok (.getfield 9, 3) := by decide +kernel
theorem dX2_copyFrom_11 : decode cX2_copyFrom 11 = .ok (.iload_n 2, 1) := by decide +kernel
theorem dX2_copyFrom_12 : decode cX2_copyFrom 12 = .ok (.aload_n 1, 1) := by decide +kernel
theorem dX2_copyFrom_13 : decode cX2_copyFrom 13 = .ok (.getfield 9, 3) := by decide +kernel
theorem dX2_copyFrom_16 : decode cX2_copyFrom 16 = .ok (.iload_n 2, 1) := by decide +kernel
theorem dX2_copyFrom_17 : decode cX2_copyFrom 17 = .ok (.iaload, 1) := by decide +kernel
theorem dX2_copyFrom_18 : decode cX2_copyFrom 18 = .ok (.iastore, 1) := by decide +kernel
theorem dX2_copyFrom_19 : decode cX2_copyFrom 19 = .ok (.aload_n 0, 1) := by decide +kernel
theorem dX2_copyFrom_20 : decode cX2_copyFrom 20 = .ok (.getfield 17, 3) := by decide +kernel
theorem dX2_copyFrom_23 : decode cX2_copyFrom 23 = .ok (.iload_n 2, 1) := by decide +kernel
theorem dX2_copyFrom_24 : decode cX2_copyFrom 24 = .ok (.aload_n 1, 1) := by decide +kernel
theorem dX2_copyFrom_25 : decode cX2_copyFrom 25 = .ok (.getfield 17, 3) := by decide +kernel
theorem dX2_copyFrom_28 : decode cX2_copyFrom 28 = .ok (.iload_n 2, 1) := by decide +kernel
theorem dX2_copyFrom_29 : decode cX2_copyFrom 29 = .ok (.aaload, 1) := by decide +kernel
theorem dX2_copyFrom_30 : decode cX2_copyFrom 30 = .ok (.aastore, 1) := by decide +kernel
theorem dX2_copyFrom_31 : decode cX2_copyFrom 31 = .ok (.aload_n 0, 1) := by decide +kernel
theorem dX2_copyFrom_32 : decode cX2_copyFrom 32 = .ok (.getfield 20, 3) := by decide +kernel
theorem dX2_copyFrom_35 : decode cX2_copyFrom 35 = .ok (.iload_n 2, 1) := by decide +kernel
theorem dX2_copyFrom_36 : decode cX2_copyFrom 36 = .ok (.aload_n 1, 1) := by decide +kernel
theorem dX2_copyFrom_37 : decode cX2_copyFrom 37 = .ok (.getfield 20, 3) := by decide +kernel
theorem dX2_copyFrom_40 : decode cX2_copyFrom 40 = .ok (.iload_n 2, 1) := by decide +kernel
theorem dX2_copyFrom_41 : decode cX2_copyFrom 41 = .ok (.iaload, 1) := by decide +kernel
theorem dX2_copyFrom_42 : decode cX2_copyFrom 42 = .ok (.iastore, 1) := by decide +kernel
theorem dX2_copyFrom_43 : decode cX2_copyFrom 43 = .ok (.iinc 2 1, 3) := by decide +kernel
theorem dX2_copyFrom_46 : decode cX2_copyFrom 46 = .ok (.goto (-44), 3) := by decide +kernel
theorem dX2_copyFrom_49 : decode cX2_copyFrom 49 = .ok (.iconst 0, 1) := by decide +kernel
theorem dX2_copyFrom_50 : decode cX2_copyFrom 50 = .ok (.istore_n 2, 1) := by decide +kernel
theorem dX2_copyFrom_51 : decode cX2_copyFrom 51 = .ok (.iload_n 2, 1) := by decide +kernel
theorem dX2_copyFrom_52 : decode cX2_copyFrom 52 = .ok (.bipush 10, 2) := by decide +kernel
theorem dX2_copyFrom_54 : decode cX2_copyFrom 54 = .ok (.if_icmp .ge 57, 3) := by decide +kernel
theorem dX2_copyFrom_57 : decode cX2_copyFrom 57 = .ok (.aload_n 0, 1) := by decide +kernel
theorem dX2_copyFrom_58 : decode cX2_copyFrom 58 = .ok (.getfield 23, 3) := by decide +kernel
theorem dX2_copyFrom_61 : decode cX2_copyFrom 61 = .ok (.iload_n 2, 1) := by decide +kernel
theorem dX2_copyFrom_62 : decode cX2_copyFrom 62 = .ok (.aload_n 1, 1) := by decide +kernel
theorem dX2_copyFrom_63 : decode cX2_copyFrom 63 = .ok (.getfield 23, 3) := by decide +kernel
theorem dX2_copyFrom_66 : decode cX2_copyFrom 66 = .ok (.iload_n 2, 1) := by decide +kernel
theorem dX2_copyFrom_67 : decode cX2_copyFrom 67 = .ok (.iaload, 1) := by decide +kernel
theorem dX2_copyFrom_68 : decode cX2_copyFrom 68 = .ok (.iastore, 1) := by decide +kernel
theorem dX2_copyFrom_69 : decode cX2_copyFrom 69 = .ok (.aload_n 0, 1) := by decide +kernel
theorem dX2_copyFrom_70 : decode cX2_copyFrom 70 = .ok (.getfield 26, 3) := by decide +kernel
theorem dX2_copyFrom_73 : decode cX2_copyFrom 73 = .ok (.iload_n 2, 1) := by decide +kernel
theorem dX2_copyFrom_74 : decode cX2_copyFrom 74 = .ok (.aload_n 1, 1) := by decide +kernel
theorem dX2_copyFrom_75 : decode cX2_copyFrom 75 = .ok (.getfield 26, 3) := by decide +kernel
theorem dX2_copyFrom_78 : decode cX2_copyFrom 78 = .ok (.iload_n 2, 1) := by decide +kernel
theorem dX2_copyFrom_79 : decode cX2_copyFrom 79 = .ok (.iaload, 1) := by decide +kernel
theorem dX2_copyFrom_80 : decode cX2_copyFrom 80 = .ok (.iastore, 1) := by decide +kernel
theorem dX2_copyFrom_81 : decode cX2_copyFrom 81 = .ok (.aload_n 0, 1) := by decide +kernel
theorem dX2_copyFrom_82 : decode cX2_copyFrom 82 = .ok (.getfield 29, 3) := by decide +kernel
theorem dX2_copyFrom_85 : decode cX2_copyFrom 85 = .ok (.iload_n 2, 1) := by decide +kernel
theorem dX2_copyFrom_86 : decode cX2_copyFrom 86 = .ok (.aload_n 1, 1) := by decide +kernel
theorem dX2_copyFrom_87 : decode cX2_copyFrom 87 = .ok (.getfield 29, 3) := by decide +kernel
theorem dX2_copyFrom_90 : decode cX2_copyFrom 90 = .ok (.iload_n 2, 1) := by decide +kernel
theorem dX2_copyFrom_91 : decode cX2_copyFrom 91 = .ok (.iaload, 1) := by decide +kernel
theorem dX2_copyFrom_92 : decode cX2_copyFrom 92 = .ok (.iastore, 1) := by decide +kernel
theorem dX2_copyFrom_93 : decode cX2_copyFrom 93 = .ok (.aload_n 0, 1) := by decide +kernel
theorem dX2_copyFrom_94 : decode cX2_copyFrom 94 = .ok (.getfield 32, 3) := by decide +kernel
theorem dX2_copyFrom_97 : decode cX2_copyFrom 97 = .ok (.iload_n 2, 1) := by decide +kernel
theorem dX2_copyFrom_98 : decode cX2_copyFrom 98 = .ok (.aload_n 1, 1) := by decide +kernel
theorem dX2_copyFrom_99 : decode cX2_copyFrom 99 = .ok (.getfield 32, 3) := by decide +kernel
theorem dX2_copyFrom_102 : decode cX2_copyFrom 102 = .ok (.iload_n 2, 1) := by decide +kernel
theorem dX2_copyFrom_103 : decode cX2_copyFrom 103 = .ok (.baload, 1) := by decide +kernel
theorem dX2_copyFrom_104 : decode cX2_copyFrom 104 = .ok (.bastore, 1) := by decide +kernel
theorem dX2_copyFrom_105 : decode cX2_copyFrom 105 = .ok (.iinc 2 1, 3) := by decide +kernel
theorem dX2_copyFrom_108 : decode cX2_copyFrom 108 = .ok (.goto (-57), 3) := by decide +kernel
theorem dX2_copyFrom_111 : decode cX2_copyFrom 111 = .ok (.aload_n 0, 1) := by decide +kernel
theorem dX2_copyFrom_112 : decode cX2_copyFrom 112 = .ok (.aload_n 1, 1) := by decide +kernel
theorem dX2_copyFrom_113 : decode cX2_copyFrom 113 = .ok (.getfield 36, 3) := by decide +kernel
theorem dX2_copyFrom_116 : decode cX2_copyFrom 116 = .ok (.putfield 36, 3) := by decide +kernel
theorem dX2_copyFrom_119 : decode cX2_copyFrom 119 = .ok (.aload_n 0, 1) := by decide +kernel
theorem dX2_copyFrom_120 : decode cX2_copyFrom 120 = .ok (.aload_n 1, 1) := by decide +kernel
theorem dX2_copyFrom_121 : decode cX2_copyFrom 121 = .ok (.getfield 40, 3) := by decide +kernel
theorem dX2_copyFrom_124 : decode cX2_copyFrom 124 = .ok (.putfield 40, 3) := by decide +kernel
theorem dX2_copyFrom_127 : decode cX2_copyFrom 127 = .ok (.aload_n 0, 1) := by decide +kernel
theorem dX2_copyFrom_128 : decode cX2_copyFrom 128 = .ok (.aload_n 1, 1) := by decide +kernel
theorem dX2_copyFrom_129 : decode cX2_copyFrom 129 = .ok (.getfield 43, 3) := by decide +kernel
theorem dX2_copyFrom_132 : decode cX2_copyFrom 132 = .ok (.putfield 43, 3) := by decide +kernel
theorem dX2_copyFrom_135 : decode cX2_copyFrom 135 = .ok (.aload_n 0, 1) := by decide +kernel
theorem dX2_copyFrom_136 : decode cX2_copyFrom 136 = .ok (.aload_n 1, 1) := by decide +kernel
theorem dX2_copyFrom_137 : decode cX2_copyFrom 137 = .ok (.getfield 46, 3) := by decide +kernel
theorem dX2_copyFrom_140 : decode cX2_copyFrom 140 = .ok (.putfield 46, 3) := by decide +kernel
theorem dX2_copyFrom_143 : decode cX2_copyFrom 143 = .ok (.aload_n 0, 1) := by decide +kernel
theorem dX2_copyFrom_144 : decode cX2_copyFrom 144 = .ok (.aload_n 1, 1) := by decide +kernel
theorem dX2_copyFrom_145 : decode cX2_copyFrom 145 = .ok (.getfield 49, 3) := by decide +kernel
theorem dX2_copyFrom_148 : decode cX2_copyFrom 148 = .ok (.putfield 49, 3) := by decide +kernel
theorem dX2_copyFrom_151 : decode cX2_copyFrom 151 = .ok (.return_, 1) := by decide +kernel
end
section
set_option maxHeartbeats 4000000 in
set_option maxRecDepth 100000 in
theorem c_X2_copyFrom (l : Launch) (D : va_G) (g : xG) (T : Nat × Nat × Nat) (h0 : Nat) (s0 : xS) (hσ : xRR s0) (d : Nat) (hd : xDay d) (d2 : Nat) (hd2 : xDay d2) (hdd : d + 10 ≤ d2 ∨ d2 + 10 ≤ d) (p0 : s0 (d + 1) = fun _ => (-1)) (p1 : s0 (d + 6) = fun _ => (-1)) (p2 : s0 (d + 7) = fun _ => 0) (p3 : 0 ≤ s0 d 7 ∧ s0 d 7 ≤ 9999) (p4 : 0 ≤ s0 d 8 ∧ s0 d 8 ≤ 65535) (p5 : s0 (d + 9) = fun _ => 0) (p6 : s0 (d2 + 1) = fun _ => (-1)) (p7 : s0 (d2 + 6) = fun _ => (-1)) (p8 : s0 (d2 + 7) = fun _ => 0) (p9 : 0 ≤ s0 d2 7 ∧ s0 d2 7 ≤ 9999) (p10 : 0 ≤ s0 d2 8 ∧ s0 d2 8 ≤ 65535) (p11 : s0 (d2 + 9) = fun _ => 0) (p12 : ∀ j : Int, 0 ≤ j → j < 2 → xAr s0 (s0 (d2 + 2) j).toNat) : Met l yX2_copyFrom (xws yX2_copyFrom cX2_copyFrom 3 none) { frames := 0, cells := 0, slots := 0, locals := 0 } (xP [.ref (h0 + d), .ref (h0 + d2)] D g T h0 s0) (xQv D g h0 (fun τ => xFr (fun k => k = d ∨ k = d + 1 ∨ k = d + 2 ∨ k = d + 5 ∨ k = d + 6 ∨ k = d + 7 ∨ k = d + 8 ∨ k = d + 9) s0 τ ∧ (((τ (d + 1) = fun _ => (-1)) ∧ (τ (d + 6) = fun _ => (-1)) ∧ (τ (d + 7) = fun _ => 0) ∧ (0 ≤ τ d 7 ∧ τ d 7 ≤ 9999) ∧ (0 ≤ τ d 8 ∧ τ d 8 ≤ 65535) ∧ (τ (d + 9) = fun _ => 0) ∧ True) ∧ (True)))) 0 0 (xA h0) := by
  refine x_met hσ (by decide) (Nat.le_of_ble_eq_true rfl) ?_
  intro p e s m args below meth c hx hb hr hml hown hT hlk hnm hE hW ls hl
  have hl : lv_has ls 3 [(0, .ref (h0 + d)), (1, .ref (h0 + d2))] := hl
  obtain ⟨Q, eQ⟩ : ∃ Q, Q = MQ below (xQv D g h0 (fun τ => xFr (fun k => k = d ∨ k = d + 1 ∨ k = d + 2 ∨ k = d + 5 ∨ k = d + 6 ∨ k = d + 7 ∨ k = d + 8 ∨ k = d + 9) s0 τ ∧ (((τ (d + 1) = fun _ => (-1)) ∧ (τ (d + 6) = fun _ => (-1)) ∧ (τ (d + 7) = fun _ => 0) ∧ (0 ≤ τ d 7 ∧ τ d 7 ≤ 9999) ∧ (0 ≤ τ d 8 ∧ τ d 8 ≤ 65535) ∧ (τ (d + 9) = fun _ => 0) ∧ True) ∧ (True)))) args s 0 0 (xA h0) := ⟨_, rfl⟩
  rw [← eQ]
  generalize hHe : ([] : List Loc) = locs at hW ⊢
  obtain ⟨H, eH⟩ : ∃ H, H = s.heap := ⟨_, rfl⟩
  rw [← eH] at hW ⊢
  have hF : xFr (fun k => k = d ∨ k = d + 1 ∨ k = d + 2 ∨ k = d + 5 ∨ k = d + 6 ∨ k = d + 7 ∨ k = d + 8 ∨ k = d + 9) s0 s0 := xFr.rf
  have hbd : (136 ≤ d ∧ d < 209) ∧ (d ≤ 146 ∨ 158 ≤ d) := by unfold xDay at hd; omega
  have hbd2 : (136 ≤ d2 ∧ d2 < 209) ∧ (d2 ≤ 146 ∨ 158 ≤ d2) := by unfold xDay at hd2; omega
  refine x_iconst hx hb dX2_copyFrom_0 ?_
  refine lv_istore_n (lv' := [(2, .int (xJ 0)), (0, .ref (h0 + d)), (1, .ref (h0 + d2))]) hx hb dX2_copyFrom_1 rfl hl (by decide) rfl (fun ls hl => ?_)
  have L2 : ∀ (fu : Nat) (i2_2 : Int) (s_2 : xS) (H : Heap) (locs : List Loc) (ls : Array Slot), (xR i2_2) → (xFr (fun k => k = d ∨ k = d + 1 ∨ k = d + 2 ∨ k = d + 5 ∨ k = d + 6 ∨ k = d + 7 ∨ k = d + 8 ∨ k = d + 9) s0 s_2) → (s_2 (d + 1) = fun _ => (-1)) → (s_2 (d + 6) = fun _ => (-1)) → (s_2 (d + 7) = fun _ => 0) → (0 ≤ s_2 d 7 ∧ s_2 d 7 ≤ 9999) → (0 ≤ s_2 d 8 ∧ s_2 d 8 ≤ 65535) → (s_2 (d + 9) = fun _ => 0) → (s_2 (d2 + 1) = fun _ => (-1)) → (s_2 (d2 + 6) = fun _ => (-1)) → (s_2 (d2 + 7) = fun _ => 0) → (0 ≤ s_2 d2 7 ∧ s_2 d2 7 ≤ 9999) → (0 ≤ s_2 d2 8 ∧ s_2 d2 8 ≤ 65535) → (s_2 (d2 + 9) = fun _ => 0) → (∀ j : Int, 0 ≤ j → j < 2 → xAr s_2 (s_2 (d2 + 2) j).toNat) → (0 ≤ i2_2) → (2 - i2_2).toNat < fu → xW D g h0 s H locs s_2 → lv_has ls 3 [(0, .ref (h0 + d)), (1, .ref (h0 + d2)), (2, .int (xJ i2_2))] → W p l e { frames := 0, cells := 0, slots := 0, locals := 0 } s m args below meth c H locs 0 0 Q (F0 m 2 ls []) := by
    intro fu
    induction fu with
    | zero => intro i2_2 s_2 H locs ls ri2_2 hF_2 q2_0 q2_1 q2_2 q2_3 q2_4 q2_5 q2_6 q2_7 q2_8 q2_9 q2_10 q2_11 q2_12 v2_0 hm; exact absurd hm (Nat.not_lt_zero _)
    | succ fu ih2 =>
      intro i2_2 s_2 H locs ls ri2_2 hF_2 q2_0 q2_1 q2_2 q2_3 q2_4 q2_5 q2_6 q2_7 q2_8 q2_9 q2_10 q2_11 q2_12 v2_0 hm hW hl
      refine x_iload_n hx hb hl 2 rfl dX2_copyFrom_2 rfl ?_
      refine x_iconst hx hb dX2_copyFrom_3 ?_
      refine x_icmp_ge (tgt := 49) hx hb ri2_2 (by decide) dX2_copyFrom_4 (by decide) (fun c1 => ?_) (fun c1 => ?_)
      · skip
        refine x_iconst hx hb dX2_copyFrom_49 ?_
        refine lv_istore_n (lv' := [(2, .int (xJ 0)), (0, .ref (h0 + d)), (1, .ref (h0 + d2))]) hx hb dX2_copyFrom_50 rfl hl (by decide) rfl (fun ls hl => ?_)
        have L51 : ∀ (fu : Nat) (i2_51 : Int) (s_51 : xS) (H : Heap) (locs : List Loc) (ls : Array Slot), (xR i2_51) → (xFr (fun k => k = d ∨ k = d + 1 ∨ k = d + 2 ∨ k = d + 5 ∨ k = d + 6 ∨ k = d + 7 ∨ k = d + 8 ∨ k = d + 9) s0 s_51) → (s_51 (d + 1) = fun _ => (-1)) → (s_51 (d + 6) = fun _ => (-1)) → (s_51 (d + 7) = fun _ => 0) → (0 ≤ s_51 d 7 ∧ s_51 d 7 ≤ 9999) → (0 ≤ s_51 d 8 ∧ s_51 d 8 ≤ 65535) → (s_51 (d + 9) = fun _ => 0) → (s_51 (d2 + 1) = fun _ => (-1)) → (s_51 (d2 + 6) = fun _ => (-1)) → (s_51 (d2 + 7) = fun _ => 0) → (0 ≤ s_51 d2 7 ∧ s_51 d2 7 ≤ 9999) → (0 ≤ s_51 d2 8 ∧ s_51 d2 8 ≤ 65535) → (s_51 (d2 + 9) = fun _ => 0) → (∀ j : Int, 0 ≤ j → j < 2 → xAr s_51 (s_51 (d2 + 2) j).toNat) → (0 ≤ i2_51) → (10 - i2_51).toNat < fu → xW D g h0 s H locs s_51 → lv_has ls 3 [(0, .ref (h0 + d)), (1, .ref (h0 + d2)), (2, .int (xJ i2_51))] → W p l e { frames := 0, cells := 0, slots := 0, locals := 0 } s m args below meth c H locs 0 0 Q (F0 m 51 ls []) := by
          intro fu
          induction fu with
          | zero => intro i2_51 s_51 H locs ls ri2_51 hF_51 q51_0 q51_1 q51_2 q51_3 q51_4 q51_5 q51_6 q51_7 q51_8 q51_9 q51_10 q51_11 q51_12 v51_0 hm; exact absurd hm (Nat.not_lt_zero _)
          | succ fu ih51 =>
            intro i2_51 s_51 H locs ls ri2_51 hF_51 q51_0 q51_1 q51_2 q51_3 q51_4 q51_5 q51_6 q51_7 q51_8 q51_9 q51_10 q51_11 q51_12 v51_0 hm hW hl
            refine x_iload_n hx hb hl 2 rfl dX2_copyFrom_51 rfl ?_
            refine x_bipush hx hb dX2_copyFrom_52 (by decide) ?_
            refine x_icmp_ge (tgt := 111) hx hb ri2_51 (by decide) dX2_copyFrom_54 (by decide) (fun c2 => ?_) (fun c2 => ?_)
            · skip
              refine x_aload_n hx hb hl 0 rfl dX2_copyFrom_111 rfl ?_
              refine x_aload_n hx hb hl 1 rfl dX2_copyFrom_112 rfl ?_
              refine x_get (j := 7) (v := .int (xJ (s_51 d2 7))) hx hb hown hT hE hW cls_X2 (Or.inl (by omega)) (so_day0 h0 g hd2 _) (by decide) rfl wq401 dX2_copyFrom_113 ?_
              refine x_rd hW (fun x3 ex3 rx3 => ?_)
              have qx3 : 0 ≤ x3 ∧ x3 ≤ 9999 := by rw [ex3]; exact q51_9
              refine x_put (j := 7) hx hb hown hT hE hW cls_X2 (by omega) (fun σ => so_day0 h0 g hd σ) (by decide) (st_X2_7 h0 s_51 d x3) (ln_X2_7 h0 _ _) wq401 rfl rfl rfl rx3 dX2_copyFrom_116 (fun H locs s4 es4 hW => ?_)
              have q5 : s4 (d + 1) = fun _ => (-1) := by rw [es4, xU_k _ _ _ (by omega)]; exact q51_0
              have q6 : s4 (d + 6) = fun _ => (-1) := by rw [es4, xU_k _ _ _ (by omega)]; exact q51_1
              have q7 : s4 (d + 7) = fun _ => 0 := by rw [es4, xU_k _ _ _ (by omega)]; exact q51_2
              have q8 : 0 ≤ s4 d 7 ∧ s4 d 7 ≤ 9999 := by rw [es4, xU_s]; omega
              have q9 : 0 ≤ s4 d 8 ∧ s4 d 8 ≤ 65535 := by rw [es4, xU_j _ _ (by decide)]; exact q51_4
              have q10 : s4 (d + 9) = fun _ => 0 := by rw [es4, xU_k _ _ _ (by omega)]; exact q51_5
              have q11 : s4 (d2 + 1) = fun _ => (-1) := by rw [es4, xU_k _ _ _ (by omega)]; exact q51_6
              have q12 : s4 (d2 + 6) = fun _ => (-1) := by rw [es4, xU_k _ _ _ (by omega)]; exact q51_7
              have q13 : s4 (d2 + 7) = fun _ => 0 := by rw [es4, xU_k _ _ _ (by omega)]; exact q51_8
              have q14 : 0 ≤ s4 d2 7 ∧ s4 d2 7 ≤ 9999 := by rw [es4, xU_k _ _ _ (by omega)]; exact q51_9
              have q15 : 0 ≤ s4 d2 8 ∧ s4 d2 8 ≤ 65535 := by rw [es4, xU_k _ _ _ (by omega)]; exact q51_10
              have q16 : s4 (d2 + 9) = fun _ => 0 := by rw [es4, xU_k _ _ _ (by omega)]; exact q51_11
              have q17 : ∀ j : Int, 0 ≤ j → j < 2 → xAr s4 (s4 (d2 + 2) j).toNat := by intro j h1 h2; rw [show s4 (d2 + 2) = s_51 (d2 + 2) from by rw [es4, xU_k _ _ _ (by omega)]]; exact (q51_12 j h1 h2).f (by rw [es4, xU_k _ _ _ (by omega)])
              have hF18 := hF_51.put es4 (by omega)
              refine x_aload_n hx hb hl 0 rfl dX2_copyFrom_119 rfl ?_
              refine x_aload_n hx hb hl 1 rfl dX2_copyFrom_120 rfl ?_
              refine x_get (j := 8) (v := .int (xJ (s4 d2 8))) hx hb hown hT hE hW cls_X2 (Or.inl (by omega)) (so_day0 h0 g hd2 _) (by decide) rfl wq404 dX2_copyFrom_121 ?_
              refine x_rd hW (fun x19 ex19 rx19 => ?_)
              have qx19 : 0 ≤ x19 ∧ x19 ≤ 65535 := by rw [ex19]; exact q15
              refine x_put (j := 8) hx hb hown hT hE hW cls_X2 (by omega) (fun σ => so_day0 h0 g hd σ) (by decide) (st_X2_8 h0 s4 d x19) (ln_X2_8 h0 _ _) wq404 rfl rfl rfl rx19 dX2_copyFrom_124 (fun H locs s20 es20 hW => ?_)
              have q21 : s20 (d + 1) = fun _ => (-1) := by rw [es20, xU_k _ _ _ (by omega)]; exact q5
              have q22 : s20 (d + 6) = fun _ => (-1) := by rw [es20, xU_k _ _ _ (by omega)]; exact q6
              have q23 : s20 (d + 7) = fun _ => 0 := by rw [es20, xU_k _ _ _ (by omega)]; exact q7
              have q24 : 0 ≤ s20 d 7 ∧ s20 d 7 ≤ 9999 := by rw [es20, xU_j _ _ (by decide)]; exact q8
              have q25 : 0 ≤ s20 d 8 ∧ s20 d 8 ≤ 65535 := by rw [es20, xU_s]; omega
              have q26 : s20 (d + 9) = fun _ => 0 := by rw [es20, xU_k _ _ _ (by omega)]; exact q10
              have q27 : s20 (d2 + 1) = fun _ => (-1) := by rw [es20, xU_k _ _ _ (by omega)]; exact q11
              have q28 : s20 (d2 + 6) = fun _ => (-1) := by rw [es20, xU_k _ _ _ (by omega)]; exact q12
              have q29 : s20 (d2 + 7) = fun _ => 0 := by rw [es20, xU_k _ _ _ (by omega)]; exact q13
              have q30 : 0 ≤ s20 d2 7 ∧ s20 d2 7 ≤ 9999 := by rw [es20, xU_k _ _ _ (by omega)]; exact q14
              have q31 : 0 ≤ s20 d2 8 ∧ s20 d2 8 ≤ 65535 := by rw [es20, xU_k _ _ _ (by omega)]; exact q15
              have q32 : s20 (d2 + 9) = fun _ => 0 := by rw [es20, xU_k _ _ _ (by omega)]; exact q16
              have q33 : ∀ j : Int, 0 ≤ j → j < 2 → xAr s20 (s20 (d2 + 2) j).toNat := by intro j h1 h2; rw [show s20 (d2 + 2) = s4 (d2 + 2) from by rw [es20, xU_k _ _ _ (by omega)]]; exact (q17 j h1 h2).f (by rw [es20, xU_k _ _ _ (by omega)])
              have hF34 := hF18.put es20 (by omega)
              refine x_aload_n hx hb hl 0 rfl dX2_copyFrom_127 rfl ?_
              refine x_aload_n hx hb hl 1 rfl dX2_copyFrom_128 rfl ?_
              refine x_get (j := 9) (v := .int (xJ (s20 d2 9))) hx hb hown hT hE hW cls_X2 (Or.inl (by omega)) (so_day0 h0 g hd2 _) (by decide) rfl wq406 dX2_copyFrom_129 ?_
              refine x_rd hW (fun x35 ex35 rx35 => ?_)
              refine x_put (j := 9) hx hb hown hT hE hW cls_X2 (by omega) (fun σ => so_day0 h0 g hd σ) (by decide) (st_X2_9 h0 s20 d x35) (ln_X2_9 h0 _ _) wq406 rfl rfl rfl rx35 dX2_copyFrom_132 (fun H locs s36 es36 hW => ?_)
              have q37 : s36 (d + 1) = fun _ => (-1) := by rw [es36, xU_k _ _ _ (by omega)]; exact q21
              have q38 : s36 (d + 6) = fun _ => (-1) := by rw [es36, xU_k _ _ _ (by omega)]; exact q22
              have q39 : s36 (d + 7) = fun _ => 0 := by rw [es36, xU_k _ _ _ (by omega)]; exact q23
              have q40 : 0 ≤ s36 d 7 ∧ s36 d 7 ≤ 9999 := by rw [es36, xU_j _ _ (by decide)]; exact q24
              have q41 : 0 ≤ s36 d 8 ∧ s36 d 8 ≤ 65535 := by rw [es36, xU_j _ _ (by decide)]; exact q25
              have q42 : s36 (d + 9) = fun _ => 0 := by rw [es36, xU_k _ _ _ (by omega)]; exact q26
              have q43 : s36 (d2 + 1) = fun _ => (-1) := by rw [es36, xU_k _ _ _ (by omega)]; exact q27
              have q44 : s36 (d2 + 6) = fun _ => (-1) := by rw [es36, xU_k _ _ _ (by omega)]; exact q28
              have q45 : s36 (d2 + 7) = fun _ => 0 := by rw [es36, xU_k _ _ _ (by omega)]; exact q29
              have q46 : 0 ≤ s36 d2 7 ∧ s36 d2 7 ≤ 9999 := by rw [es36, xU_k _ _ _ (by omega)]; exact q30
              have q47 : 0 ≤ s36 d2 8 ∧ s36 d2 8 ≤ 65535 := by rw [es36, xU_k _ _ _ (by omega)]; exact q31
              have q48 : s36 (d2 + 9) = fun _ => 0 := by rw [es36, xU_k _ _ _ (by omega)]; exact q32
              have q49 : ∀ j : Int, 0 ≤ j → j < 2 → xAr s36 (s36 (d2 + 2) j).toNat := by intro j h1 h2; rw [show s36 (d2 + 2) = s20 (d2 + 2) from by rw [es36, xU_k _ _ _ (by omega)]]; exact (q33 j h1 h2).f (by rw [es36, xU_k _ _ _ (by omega)])
              have hF50 := hF34.put es36 (by omega)
              refine x_aload_n hx hb hl 0 rfl dX2_copyFrom_135 rfl ?_
              refine x_aload_n hx hb hl 1 rfl dX2_copyFrom_136 rfl ?_
              refine x_get (j := 10) (v := .int (xJ (s36 d2 10))) hx hb hown hT hE hW cls_X2 (Or.inl (by omega)) (so_day0 h0 g hd2 _) (by decide) rfl wq409 dX2_copyFrom_137 ?_
              refine x_rd hW (fun x51 ex51 rx51 => ?_)
              refine x_put (j := 10) hx hb hown hT hE hW cls_X2 (by omega) (fun σ => so_day0 h0 g hd σ) (by decide) (st_X2_10 h0 s36 d x51) (ln_X2_10 h0 _ _) wq409 rfl rfl rfl rx51 dX2_copyFrom_140 (fun H locs s52 es52 hW => ?_)
              have q53 : s52 (d + 1) = fun _ => (-1) := by rw [es52, xU_k _ _ _ (by omega)]; exact q37
              have q54 : s52 (d + 6) = fun _ => (-1) := by rw [es52, xU_k _ _ _ (by omega)]; exact q38
              have q55 : s52 (d + 7) = fun _ => 0 := by rw [es52, xU_k _ _ _ (by omega)]; exact q39
              have q56 : 0 ≤ s52 d 7 ∧ s52 d 7 ≤ 9999 := by rw [es52, xU_j _ _ (by decide)]; exact q40
              have q57 : 0 ≤ s52 d 8 ∧ s52 d 8 ≤ 65535 := by rw [es52, xU_j _ _ (by decide)]; exact q41
              have q58 : s52 (d + 9) = fun _ => 0 := by rw [es52, xU_k _ _ _ (by omega)]; exact q42
              have q59 : s52 (d2 + 1) = fun _ => (-1) := by rw [es52, xU_k _ _ _ (by omega)]; exact q43
              have q60 : s52 (d2 + 6) = fun _ => (-1) := by rw [es52, xU_k _ _ _ (by omega)]; exact q44
              have q61 : s52 (d2 + 7) = fun _ => 0 := by rw [es52, xU_k _ _ _ (by omega)]; exact q45
              have q62 : 0 ≤ s52 d2 7 ∧ s52 d2 7 ≤ 9999 := by rw [es52, xU_k _ _ _ (by omega)]; exact q46
              have q63 : 0 ≤ s52 d2 8 ∧ s52 d2 8 ≤ 65535 := by rw [es52, xU_k _ _ _ (by omega)]; exact q47
              have q64 : s52 (d2 + 9) = fun _ => 0 := by rw [es52, xU_k _ _ _ (by omega)]; exact q48
              have q65 : ∀ j : Int, 0 ≤ j → j < 2 → xAr s52 (s52 (d2 + 2) j).toNat := by intro j h1 h2; rw [show s52 (d2 + 2) = s36 (d2 + 2) from by rw [es52, xU_k _ _ _ (by omega)]]; exact (q49 j h1 h2).f (by rw [es52, xU_k _ _ _ (by omega)])
              have hF66 := hF50.put es52 (by omega)
              refine x_aload_n hx hb hl 0 rfl dX2_copyFrom_143 rfl ?_
              refine x_aload_n hx hb hl 1 rfl dX2_copyFrom_144 rfl ?_
              refine x_get (j := 11) (v := .int (xJ (s52 d2 11))) hx hb hown hT hE hW cls_X2 (Or.inl (by omega)) (so_day0 h0 g hd2 _) (by decide) rfl wq412 dX2_copyFrom_145 ?_
              refine x_rd hW (fun x67 ex67 rx67 => ?_)
              refine x_put (j := 11) hx hb hown hT hE hW cls_X2 (by omega) (fun σ => so_day0 h0 g hd σ) (by decide) (st_X2_11 h0 s52 d x67) (ln_X2_11 h0 _ _) wq412 rfl rfl rfl rx67 dX2_copyFrom_148 (fun H locs s68 es68 hW => ?_)
              have q69 : s68 (d + 1) = fun _ => (-1) := by rw [es68, xU_k _ _ _ (by omega)]; exact q53
              have q70 : s68 (d + 6) = fun _ => (-1) := by rw [es68, xU_k _ _ _ (by omega)]; exact q54
              have q71 : s68 (d + 7) = fun _ => 0 := by rw [es68, xU_k _ _ _ (by omega)]; exact q55
              have q72 : 0 ≤ s68 d 7 ∧ s68 d 7 ≤ 9999 := by rw [es68, xU_j _ _ (by decide)]; exact q56
              have q73 : 0 ≤ s68 d 8 ∧ s68 d 8 ≤ 65535 := by rw [es68, xU_j _ _ (by decide)]; exact q57
              have q74 : s68 (d + 9) = fun _ => 0 := by rw [es68, xU_k _ _ _ (by omega)]; exact q58
              have q75 : s68 (d2 + 1) = fun _ => (-1) := by rw [es68, xU_k _ _ _ (by omega)]; exact q59
              have q76 : s68 (d2 + 6) = fun _ => (-1) := by rw [es68, xU_k _ _ _ (by omega)]; exact q60
              have q77 : s68 (d2 + 7) = fun _ => 0 := by rw [es68, xU_k _ _ _ (by omega)]; exact q61
              have q78 : 0 ≤ s68 d2 7 ∧ s68 d2 7 ≤ 9999 := by rw [es68, xU_k _ _ _ (by omega)]; exact q62
              have q79 : 0 ≤ s68 d2 8 ∧ s68 d2 8 ≤ 65535 := by rw [es68, xU_k _ _ _ (by omega)]; exact q63
              have q80 : s68 (d2 + 9) = fun _ => 0 := by rw [es68, xU_k _ _ _ (by omega)]; exact q64
              have q81 : ∀ j : Int, 0 ≤ j → j < 2 → xAr s68 (s68 (d2 + 2) j).toNat := by intro j h1 h2; rw [show s68 (d2 + 2) = s52 (d2 + 2) from by rw [es68, xU_k _ _ _ (by omega)]]; exact (q65 j h1 h2).f (by rw [es68, xU_k _ _ _ (by omega)])
              have hF82 := hF66.put es68 (by omega)
              rw [eQ]
              exact x_vret hx hb hr hlk hW ⟨hF82, ⟨q69, q70, q71, q72, q73, q74, trivial⟩, trivial⟩ dX2_copyFrom_151
            refine x_aload_n hx hb hl 0 rfl dX2_copyFrom_57 rfl ?_
            refine x_get (j := 3) (v := .ref (h0 + (d + 6))) hx hb hown hT hE hW cls_X2 (Or.inl (by omega)) (so_day0 h0 g hd _) (by decide) rfl wq388 dX2_copyFrom_58 ?_
            refine x_iload_n hx hb hl 2 rfl dX2_copyFrom_61 rfl ?_
            refine x_aload_n hx hb hl 1 rfl dX2_copyFrom_62 rfl ?_
            refine x_get (j := 3) (v := .ref (h0 + (d2 + 6))) hx hb hown hT hE hW cls_X2 (Or.inl (by omega)) (so_day0 h0 g hd2 _) (by decide) rfl wq388 dX2_copyFrom_63 ?_
            refine x_iload_n hx hb hl 2 rfl dX2_copyFrom_66 rfl ?_
            refine x_iald hx hb hE hW (Or.inl (by omega)) (sa_day6 h0 g hd2 _) (by omega) (by decide) dX2_copyFrom_67 ?_
            refine x_rd hW (fun x83 ex83 rx83 => ?_)
            have fx83 : x83 = (-1) := by rw [ex83, q51_7]
            refine x_iast hx hb hE hW (by omega) (fun σ => sa_day6 h0 g hd σ) (by omega) (by decide) rx83 dX2_copyFrom_68 (fun H locs s84 es84 hW => ?_)
            have q85 : s84 (d + 1) = fun _ => (-1) := by rw [es84, xU_k _ _ _ (by omega)]; exact q51_0
            have q86 : s84 (d + 6) = fun _ => (-1) := by rw [es84, show x83 = (-1) from by omega]; exact xU_c q51_1
            have q87 : s84 (d + 7) = fun _ => 0 := by rw [es84, xU_k _ _ _ (by omega)]; exact q51_2
            have q88 : 0 ≤ s84 d 7 ∧ s84 d 7 ≤ 9999 := by rw [es84, xU_k _ _ _ (by omega)]; exact q51_3
            have q89 : 0 ≤ s84 d 8 ∧ s84 d 8 ≤ 65535 := by rw [es84, xU_k _ _ _ (by omega)]; exact q51_4
            have q90 : s84 (d + 9) = fun _ => 0 := by rw [es84, xU_k _ _ _ (by omega)]; exact q51_5
            have q91 : s84 (d2 + 1) = fun _ => (-1) := by rw [es84, xU_k _ _ _ (by omega)]; exact q51_6
            have q92 : s84 (d2 + 6) = fun _ => (-1) := by rw [es84, xU_k _ _ _ (by omega)]; exact q51_7
            have q93 : s84 (d2 + 7) = fun _ => 0 := by rw [es84, xU_k _ _ _ (by omega)]; exact q51_8
            have q94 : 0 ≤ s84 d2 7 ∧ s84 d2 7 ≤ 9999 := by rw [es84, xU_k _ _ _ (by omega)]; exact q51_9
            have q95 : 0 ≤ s84 d2 8 ∧ s84 d2 8 ≤ 65535 := by rw [es84, xU_k _ _ _ (by omega)]; exact q51_10
            have q96 : s84 (d2 + 9) = fun _ => 0 := by rw [es84, xU_k _ _ _ (by omega)]; exact q51_11
            have q97 : ∀ j : Int, 0 ≤ j → j < 2 → xAr s84 (s84 (d2 + 2) j).toNat := by intro j h1 h2; rw [show s84 (d2 + 2) = s_51 (d2 + 2) from by rw [es84, xU_k _ _ _ (by omega)]]; exact (q51_12 j h1 h2).f (by rw [es84, xU_k _ _ _ (by omega)])
            have hF98 := hF_51.put es84 (by omega)
            refine x_aload_n hx hb hl 0 rfl dX2_copyFrom_69 rfl ?_
            refine x_get (j := 4) (v := .ref (h0 + (d + 7))) hx hb hown hT hE hW cls_X2 (Or.inl (by omega)) (so_day0 h0 g hd _) (by decide) rfl wq392 dX2_copyFrom_70 ?_
            refine x_iload_n hx hb hl 2 rfl dX2_copyFrom_73 rfl ?_
            refine x_aload_n hx hb hl 1 rfl dX2_copyFrom_74 rfl ?_
            refine x_get (j := 4) (v := .ref (h0 + (d2 + 7))) hx hb hown hT hE hW cls_X2 (Or.inl (by omega)) (so_day0 h0 g hd2 _) (by decide) rfl wq392 dX2_copyFrom_75 ?_
            refine x_iload_n hx hb hl 2 rfl dX2_copyFrom_78 rfl ?_
            refine x_iald hx hb hE hW (Or.inl (by omega)) (sa_day7 h0 g hd2 _) (by omega) (by decide) dX2_copyFrom_79 ?_
            refine x_rd hW (fun x99 ex99 rx99 => ?_)
            have fx99 : x99 = 0 := by rw [ex99, q93]
            refine x_iast hx hb hE hW (by omega) (fun σ => sa_day7 h0 g hd σ) (by omega) (by decide) rx99 dX2_copyFrom_80 (fun H locs s100 es100 hW => ?_)
            have q101 : s100 (d + 1) = fun _ => (-1) := by rw [es100, xU_k _ _ _ (by omega)]; exact q85
            have q102 : s100 (d + 6) = fun _ => (-1) := by rw [es100, xU_k _ _ _ (by omega)]; exact q86
            have q103 : s100 (d + 7) = fun _ => 0 := by rw [es100, show x99 = 0 from by omega]; exact xU_c q87
            have q104 : 0 ≤ s100 d 7 ∧ s100 d 7 ≤ 9999 := by rw [es100, xU_k _ _ _ (by omega)]; exact q88
            have q105 : 0 ≤ s100 d 8 ∧ s100 d 8 ≤ 65535 := by rw [es100, xU_k _ _ _ (by omega)]; exact q89
            have q106 : s100 (d + 9) = fun _ => 0 := by rw [es100, xU_k _ _ _ (by omega)]; exact q90
            have q107 : s100 (d2 + 1) = fun _ => (-1) := by rw [es100, xU_k _ _ _ (by omega)]; exact q91
            have q108 : s100 (d2 + 6) = fun _ => (-1) := by rw [es100, xU_k _ _ _ (by omega)]; exact q92
            have q109 : s100 (d2 + 7) = fun _ => 0 := by rw [es100, xU_k _ _ _ (by omega)]; exact q93
            have q110 : 0 ≤ s100 d2 7 ∧ s100 d2 7 ≤ 9999 := by rw [es100, xU_k _ _ _ (by omega)]; exact q94
            have q111 : 0 ≤ s100 d2 8 ∧ s100 d2 8 ≤ 65535 := by rw [es100, xU_k _ _ _ (by omega)]; exact q95
            have q112 : s100 (d2 + 9) = fun _ => 0 := by rw [es100, xU_k _ _ _ (by omega)]; exact q96
            have q113 : ∀ j : Int, 0 ≤ j → j < 2 → xAr s100 (s100 (d2 + 2) j).toNat := by intro j h1 h2; rw [show s100 (d2 + 2) = s84 (d2 + 2) from by rw [es100, xU_k _ _ _ (by omega)]]; exact (q97 j h1 h2).f (by rw [es100, xU_k _ _ _ (by omega)])
            have hF114 := hF98.put es100 (by omega)
            refine x_aload_n hx hb hl 0 rfl dX2_copyFrom_81 rfl ?_
            refine x_get (j := 5) (v := .ref (h0 + (d + 8))) hx hb hown hT hE hW cls_X2 (Or.inl (by omega)) (so_day0 h0 g hd _) (by decide) rfl wq395 dX2_copyFrom_82 ?_
            refine x_iload_n hx hb hl 2 rfl dX2_copyFrom_85 rfl ?_
            refine x_aload_n hx hb hl 1 rfl dX2_copyFrom_86 rfl ?_
            refine x_get (j := 5) (v := .ref (h0 + (d2 + 8))) hx hb hown hT hE hW cls_X2 (Or.inl (by omega)) (so_day0 h0 g hd2 _) (by decide) rfl wq395 dX2_copyFrom_87 ?_
            refine x_iload_n hx hb hl 2 rfl dX2_copyFrom_90 rfl ?_
            refine x_iald hx hb hE hW (Or.inl (by omega)) (sa_day8 h0 g hd2 _) (by omega) (by decide) dX2_copyFrom_91 ?_
            refine x_rd hW (fun x115 ex115 rx115 => ?_)
            refine x_iast hx hb hE hW (by omega) (fun σ => sa_day8 h0 g hd σ) (by omega) (by decide) rx115 dX2_copyFrom_92 (fun H locs s116 es116 hW => ?_)
            have q117 : s116 (d + 1) = fun _ => (-1) := by rw [es116, xU_k _ _ _ (by omega)]; exact q101
            have q118 : s116 (d + 6) = fun _ => (-1) := by rw [es116, xU_k _ _ _ (by omega)]; exact q102
            have q119 : s116 (d + 7) = fun _ => 0 := by rw [es116, xU_k _ _ _ (by omega)]; exact q103
            have q120 : 0 ≤ s116 d 7 ∧ s116 d 7 ≤ 9999 := by rw [es116, xU_k _ _ _ (by omega)]; exact q104
            have q121 : 0 ≤ s116 d 8 ∧ s116 d 8 ≤ 65535 := by rw [es116, xU_k _ _ _ (by omega)]; exact q105
            have q122 : s116 (d + 9) = fun _ => 0 := by rw [es116, xU_k _ _ _ (by omega)]; exact q106
            have q123 : s116 (d2 + 1) = fun _ => (-1) := by rw [es116, xU_k _ _ _ (by omega)]; exact q107
            have q124 : s116 (d2 + 6) = fun _ => (-1) := by rw [es116, xU_k _ _ _ (by omega)]; exact q108
            have q125 : s116 (d2 + 7) = fun _ => 0 := by rw [es116, xU_k _ _ _ (by omega)]; exact q109
            have q126 : 0 ≤ s116 d2 7 ∧ s116 d2 7 ≤ 9999 := by rw [es116, xU_k _ _ _ (by omega)]; exact q110
            have q127 : 0 ≤ s116 d2 8 ∧ s116 d2 8 ≤ 65535 := by rw [es116, xU_k _ _ _ (by omega)]; exact q111
            have q128 : s116 (d2 + 9) = fun _ => 0 := by rw [es116, xU_k _ _ _ (by omega)]; exact q112
            have q129 : ∀ j : Int, 0 ≤ j → j < 2 → xAr s116 (s116 (d2 + 2) j).toNat := by intro j h1 h2; rw [show s116 (d2 + 2) = s100 (d2 + 2) from by rw [es116, xU_k _ _ _ (by omega)]]; exact (q113 j h1 h2).f (by rw [es116, xU_k _ _ _ (by omega)])
            have hF130 := hF114.put es116 (by omega)
            refine x_aload_n hx hb hl 0 rfl dX2_copyFrom_93 rfl ?_
            refine x_get (j := 6) (v := .ref (h0 + (d + 9))) hx hb hown hT hE hW cls_X2 (Or.inl (by omega)) (so_day0 h0 g hd _) (by decide) rfl wq398 dX2_copyFrom_94 ?_
            refine x_iload_n hx hb hl 2 rfl dX2_copyFrom_97 rfl ?_
            refine x_aload_n hx hb hl 1 rfl dX2_copyFrom_98 rfl ?_
            refine x_get (j := 6) (v := .ref (h0 + (d2 + 9))) hx hb hown hT hE hW cls_X2 (Or.inl (by omega)) (so_day0 h0 g hd2 _) (by decide) rfl wq398 dX2_copyFrom_99 ?_
            refine x_iload_n hx hb hl 2 rfl dX2_copyFrom_102 rfl ?_
            refine x_zald hx hb hE hW (Or.inl (by omega)) (sa_day9 h0 g hd2 _) (by omega) (by decide) dX2_copyFrom_103 ?_
            refine x_rd hW (fun x131 ex131 rx131 => ?_)
            have fx131 : x131 = 0 := by rw [ex131, q128]
            refine x_zast hx hb hE hW (by omega) (fun σ => sa_day9 h0 g hd σ) (by omega) (by decide) (by omega) dX2_copyFrom_104 (fun H locs s132 es132 hW => ?_)
            have q133 : s132 (d + 1) = fun _ => (-1) := by rw [es132, xU_k _ _ _ (by omega)]; exact q117
            have q134 : s132 (d + 6) = fun _ => (-1) := by rw [es132, xU_k _ _ _ (by omega)]; exact q118
            have q135 : s132 (d + 7) = fun _ => 0 := by rw [es132, xU_k _ _ _ (by omega)]; exact q119
            have q136 : 0 ≤ s132 d 7 ∧ s132 d 7 ≤ 9999 := by rw [es132, xU_k _ _ _ (by omega)]; exact q120
            have q137 : 0 ≤ s132 d 8 ∧ s132 d 8 ≤ 65535 := by rw [es132, xU_k _ _ _ (by omega)]; exact q121
            have q138 : s132 (d + 9) = fun _ => 0 := by rw [es132, show x131 = 0 from by omega]; exact xU_c q122
            have q139 : s132 (d2 + 1) = fun _ => (-1) := by rw [es132, xU_k _ _ _ (by omega)]; exact q123
            have q140 : s132 (d2 + 6) = fun _ => (-1) := by rw [es132, xU_k _ _ _ (by omega)]; exact q124
            have q141 : s132 (d2 + 7) = fun _ => 0 := by rw [es132, xU_k _ _ _ (by omega)]; exact q125
            have q142 : 0 ≤ s132 d2 7 ∧ s132 d2 7 ≤ 9999 := by rw [es132, xU_k _ _ _ (by omega)]; exact q126
            have q143 : 0 ≤ s132 d2 8 ∧ s132 d2 8 ≤ 65535 := by rw [es132, xU_k _ _ _ (by omega)]; exact q127
            have q144 : s132 (d2 + 9) = fun _ => 0 := by rw [es132, xU_k _ _ _ (by omega)]; exact q128
            have q145 : ∀ j : Int, 0 ≤ j → j < 2 → xAr s132 (s132 (d2 + 2) j).toNat := by intro j h1 h2; rw [show s132 (d2 + 2) = s116 (d2 + 2) from by rw [es132, xU_k _ _ _ (by omega)]]; exact (q129 j h1 h2).f (by rw [es132, xU_k _ _ _ (by omega)])
            have hF146 := hF130.put es132 (by omega)
            refine x_iinc (lv' := [(2, .int (xJ (i2_51 + 1))), (0, .ref (h0 + d)), (1, .ref (h0 + d2))]) hx hb hl 2 rfl dX2_copyFrom_105 (by decide) rfl (fun ls hl => ?_)
            refine lv_goto (tgt := 51) hx hb dX2_copyFrom_108 (by decide) ?_
            exact ih51 (i2_51 + 1) s132 H locs ls (by omega) hF146 q133 q134 q135 q136 q137 q138 q139 q140 q141 q142 q143 q144 q145 (by omega) (by omega) hW (lv_sub hl [1, 2, 0] rfl)
        exact L51 ((10 - 0 : Int).toNat + 1) 0 s_2 H locs ls (by decide) hF_2 q2_0 q2_1 q2_2 q2_3 q2_4 q2_5 q2_6 q2_7 q2_8 q2_9 q2_10 q2_11 q2_12 (by omega) (Nat.lt_succ_self _) hW (lv_sub hl [1, 2, 0] rfl)
      refine x_aload_n hx hb hl 0 rfl dX2_copyFrom_7 rfl ?_
      refine x_get (j := 0) (v := .ref (h0 + (d + 1))) hx hb hown hT hE hW cls_X2 (Or.inl (by omega)) (so_day0 h0 g hd _) (by decide) rfl wq383 dX2_copyFrom_8 ?_
      refine x_iload_n hx hb hl 2 rfl dX2_copyFrom_11 rfl ?_
      refine x_aload_n hx hb hl 1 rfl dX2_copyFrom_12 rfl ?_
      refine x_get (j := 0) (v := .ref (h0 + (d2 + 1))) hx hb hown hT hE hW cls_X2 (Or.inl (by omega)) (so_day0 h0 g hd2 _) (by decide) rfl wq383 dX2_copyFrom_13 ?_
      refine x_iload_n hx hb hl 2 rfl dX2_copyFrom_16 rfl ?_
      refine x_iald hx hb hE hW (Or.inl (by omega)) (sa_day1 h0 g hd2 _) (by omega) (by decide) dX2_copyFrom_17 ?_
      refine x_rd hW (fun x147 ex147 rx147 => ?_)
      have fx147 : x147 = (-1) := by rw [ex147, q2_6]
      refine x_iast hx hb hE hW (by omega) (fun σ => sa_day1 h0 g hd σ) (by omega) (by decide) rx147 dX2_copyFrom_18 (fun H locs s148 es148 hW => ?_)
      have q149 : s148 (d + 1) = fun _ => (-1) := by rw [es148, show x147 = (-1) from by omega]; exact xU_c q2_0
      have q150 : s148 (d + 6) = fun _ => (-1) := by rw [es148, xU_k _ _ _ (by omega)]; exact q2_1
      have q151 : s148 (d + 7) = fun _ => 0 := by rw [es148, xU_k _ _ _ (by omega)]; exact q2_2
      have q152 : 0 ≤ s148 d 7 ∧ s148 d 7 ≤ 9999 := by rw [es148, xU_k _ _ _ (by omega)]; exact q2_3
      have q153 : 0 ≤ s148 d 8 ∧ s148 d 8 ≤ 65535 := by rw [es148, xU_k _ _ _ (by omega)]; exact q2_4
      have q154 : s148 (d + 9) = fun _ => 0 := by rw [es148, xU_k _ _ _ (by omega)]; exact q2_5
      have q155 : s148 (d2 + 1) = fun _ => (-1) := by rw [es148, xU_k _ _ _ (by omega)]; exact q2_6
      have q156 : s148 (d2 + 6) = fun _ => (-1) := by rw [es148, xU_k _ _ _ (by omega)]; exact q2_7
      have q157 : s148 (d2 + 7) = fun _ => 0 := by rw [es148, xU_k _ _ _ (by omega)]; exact q2_8
      have q158 : 0 ≤ s148 d2 7 ∧ s148 d2 7 ≤ 9999 := by rw [es148, xU_k _ _ _ (by omega)]; exact q2_9
      have q159 : 0 ≤ s148 d2 8 ∧ s148 d2 8 ≤ 65535 := by rw [es148, xU_k _ _ _ (by omega)]; exact q2_10
      have q160 : s148 (d2 + 9) = fun _ => 0 := by rw [es148, xU_k _ _ _ (by omega)]; exact q2_11
      have q161 : ∀ j : Int, 0 ≤ j → j < 2 → xAr s148 (s148 (d2 + 2) j).toNat := by intro j h1 h2; rw [show s148 (d2 + 2) = s_2 (d2 + 2) from by rw [es148, xU_k _ _ _ (by omega)]]; exact (q2_12 j h1 h2).f (by rw [es148, xU_k _ _ _ (by omega)])
      have hF162 := hF_2.put es148 (by omega)
      refine x_aload_n hx hb hl 0 rfl dX2_copyFrom_19 rfl ?_
      refine x_get (j := 1) (v := .ref (h0 + (d + 2))) hx hb hown hT hE hW cls_X2 (Or.inl (by omega)) (so_day0 h0 g hd _) (by decide) rfl wq386 dX2_copyFrom_20 ?_
      refine x_iload_n hx hb hl 2 rfl dX2_copyFrom_23 rfl ?_
      refine x_aload_n hx hb hl 1 rfl dX2_copyFrom_24 rfl ?_
      refine x_get (j := 1) (v := .ref (h0 + (d2 + 2))) hx hb hown hT hE hW cls_X2 (Or.inl (by omega)) (so_day0 h0 g hd2 _) (by decide) rfl wq386 dX2_copyFrom_25 ?_
      refine x_iload_n hx hb hl 2 rfl dX2_copyFrom_28 rfl ?_
      refine x_aaldR (t0 := 3) (n := 2) (r := (s148 (d2 + 2) i2_2).toNat) hx hb hE hW (by omega) rfl rfl (sg_day2 h0 g hd2 _) (by omega) (by decide) (by rw [xrow_day hd2, Int.toNat_of_nonneg (by omega)]) dX2_copyFrom_29 ?_
      obtain ⟨v163, ev163, rv163⟩ : ∃ v : Int, v = s148 (d2 + 2) i2_2 ∧ xR v := ⟨_, rfl, hW.2.1 _ _⟩
      rw [← ev163]
      refine x_aastR (v := v163) hx hb hE hW (by omega) (fun σ => sg_day2 h0 g hd σ) (xrow_day hd) (by omega) (by decide) (by rw [ev163]; exact q161 _ (by omega) (by omega)) rv163 dX2_copyFrom_30 (fun H locs s164 es164 hW => ?_)
      have q165 : s164 (d + 1) = fun _ => (-1) := by rw [es164, xU_k _ _ _ (by omega)]; exact q149
      have q166 : s164 (d + 6) = fun _ => (-1) := by rw [es164, xU_k _ _ _ (by omega)]; exact q150
      have q167 : s164 (d + 7) = fun _ => 0 := by rw [es164, xU_k _ _ _ (by omega)]; exact q151
      have q168 : 0 ≤ s164 d 7 ∧ s164 d 7 ≤ 9999 := by rw [es164, xU_k _ _ _ (by omega)]; exact q152
      have q169 : 0 ≤ s164 d 8 ∧ s164 d 8 ≤ 65535 := by rw [es164, xU_k _ _ _ (by omega)]; exact q153
      have q170 : s164 (d + 9) = fun _ => 0 := by rw [es164, xU_k _ _ _ (by omega)]; exact q154
      have q171 : s164 (d2 + 1) = fun _ => (-1) := by rw [es164, xU_k _ _ _ (by omega)]; exact q155
      have q172 : s164 (d2 + 6) = fun _ => (-1) := by rw [es164, xU_k _ _ _ (by omega)]; exact q156
      have q173 : s164 (d2 + 7) = fun _ => 0 := by rw [es164, xU_k _ _ _ (by omega)]; exact q157
      have q174 : 0 ≤ s164 d2 7 ∧ s164 d2 7 ≤ 9999 := by rw [es164, xU_k _ _ _ (by omega)]; exact q158
      have q175 : 0 ≤ s164 d2 8 ∧ s164 d2 8 ≤ 65535 := by rw [es164, xU_k _ _ _ (by omega)]; exact q159
      have q176 : s164 (d2 + 9) = fun _ => 0 := by rw [es164, xU_k _ _ _ (by omega)]; exact q160
      have q177 : ∀ j : Int, 0 ≤ j → j < 2 → xAr s164 (s164 (d2 + 2) j).toNat := by intro j h1 h2; rw [show s164 (d2 + 2) = s148 (d2 + 2) from by rw [es164, xU_k _ _ _ (by omega)]]; exact (q161 j h1 h2).f (by rw [es164, xU_k _ _ _ (by omega)])
      have hF178 := hF162.put es164 (by omega)
      refine x_aload_n hx hb hl 0 rfl dX2_copyFrom_31 rfl ?_
      refine x_get (j := 2) (v := .ref (h0 + (d + 5))) hx hb hown hT hE hW cls_X2 (Or.inl (by omega)) (so_day0 h0 g hd _) (by decide) rfl wq387 dX2_copyFrom_32 ?_
      refine x_iload_n hx hb hl 2 rfl dX2_copyFrom_35 rfl ?_
      refine x_aload_n hx hb hl 1 rfl dX2_copyFrom_36 rfl ?_
      refine x_get (j := 2) (v := .ref (h0 + (d2 + 5))) hx hb hown hT hE hW cls_X2 (Or.inl (by omega)) (so_day0 h0 g hd2 _) (by decide) rfl wq387 dX2_copyFrom_37 ?_
      refine x_iload_n hx hb hl 2 rfl dX2_copyFrom_40 rfl ?_
      refine x_iald hx hb hE hW (Or.inl (by omega)) (sa_day5 h0 g hd2 _) (by omega) (by decide) dX2_copyFrom_41 ?_
      refine x_rd hW (fun x179 ex179 rx179 => ?_)
      refine x_iast hx hb hE hW (by omega) (fun σ => sa_day5 h0 g hd σ) (by omega) (by decide) rx179 dX2_copyFrom_42 (fun H locs s180 es180 hW => ?_)
      have q181 : s180 (d + 1) = fun _ => (-1) := by rw [es180, xU_k _ _ _ (by omega)]; exact q165
      have q182 : s180 (d + 6) = fun _ => (-1) := by rw [es180, xU_k _ _ _ (by omega)]; exact q166
      have q183 : s180 (d + 7) = fun _ => 0 := by rw [es180, xU_k _ _ _ (by omega)]; exact q167
      have q184 : 0 ≤ s180 d 7 ∧ s180 d 7 ≤ 9999 := by rw [es180, xU_k _ _ _ (by omega)]; exact q168
      have q185 : 0 ≤ s180 d 8 ∧ s180 d 8 ≤ 65535 := by rw [es180, xU_k _ _ _ (by omega)]; exact q169
      have q186 : s180 (d + 9) = fun _ => 0 := by rw [es180, xU_k _ _ _ (by omega)]; exact q170
      have q187 : s180 (d2 + 1) = fun _ => (-1) := by rw [es180, xU_k _ _ _ (by omega)]; exact q171
      have q188 : s180 (d2 + 6) = fun _ => (-1) := by rw [es180, xU_k _ _ _ (by omega)]; exact q172
      have q189 : s180 (d2 + 7) = fun _ => 0 := by rw [es180, xU_k _ _ _ (by omega)]; exact q173
      have q190 : 0 ≤ s180 d2 7 ∧ s180 d2 7 ≤ 9999 := by rw [es180, xU_k _ _ _ (by omega)]; exact q174
      have q191 : 0 ≤ s180 d2 8 ∧ s180 d2 8 ≤ 65535 := by rw [es180, xU_k _ _ _ (by omega)]; exact q175
      have q192 : s180 (d2 + 9) = fun _ => 0 := by rw [es180, xU_k _ _ _ (by omega)]; exact q176
      have q193 : ∀ j : Int, 0 ≤ j → j < 2 → xAr s180 (s180 (d2 + 2) j).toNat := by intro j h1 h2; rw [show s180 (d2 + 2) = s164 (d2 + 2) from by rw [es180, xU_k _ _ _ (by omega)]]; exact (q177 j h1 h2).f (by rw [es180, xU_k _ _ _ (by omega)])
      have hF194 := hF178.put es180 (by omega)
      refine x_iinc (lv' := [(2, .int (xJ (i2_2 + 1))), (0, .ref (h0 + d)), (1, .ref (h0 + d2))]) hx hb hl 2 rfl dX2_copyFrom_43 (by decide) rfl (fun ls hl => ?_)
      refine lv_goto (tgt := 2) hx hb dX2_copyFrom_46 (by decide) ?_
      exact ih2 (i2_2 + 1) s180 H locs ls (by omega) hF194 q181 q182 q183 q184 q185 q186 q187 q188 q189 q190 q191 q192 q193 (by omega) (by omega) hW (lv_sub hl [1, 2, 0] rfl)
  exact L2 ((2 - 0 : Int).toNat + 1) 0 s0 H locs ls (by decide) hF p0 p1 p2 p3 p4 p5 p6 p7 p8 p9 p10 p11 p12 (by omega) (Nat.lt_succ_self _) hW (lv_sub hl [1, 2, 0] rfl)
set_option maxHeartbeats 4000000 in
set_option maxRecDepth 100000 in
theorem c_X10_isIn (l : Launch) (D : va_G) (g : xG) (T : Nat × Nat × Nat) (h0 : Nat) (s0 : xS) (hσ : xRR s0) (x : Int) (rx : xR x) (lo : Int) (rlo : xR lo) (hi : Int) (rhi : xR hi) : Met l yX10_isIn (xws yX10_isIn cX10_isIn 3 (some .boolean)) { frames := 0, cells := 0, slots := 0, locals := 0 } (xP [.int (xJ x), .int (xJ lo), .int (xJ hi)] D g T h0 s0) (xQi D g h0 (fun r τ => s0 = τ ∧ ((r = 1 ∧ lo ≤ x ∧ x ≤ hi) ∨ (r = 0 ∧ (x < lo ∨ hi < x))))) 0 0 (xA h0) := by
  refine x_met hσ (by decide) (Nat.le_of_ble_eq_true rfl) ?_
  intro p e s m args below meth c hx hb hr hml hown hT hlk hnm hE hW ls hl
  have hl : lv_has ls 3 [(0, .int (xJ x)), (1, .int (xJ lo)), (2, .int (xJ hi))] := hl
  obtain ⟨Q, eQ⟩ : ∃ Q, Q = MQ below (xQi D g h0 (fun r τ => s0 = τ ∧ ((r = 1 ∧ lo ≤ x ∧ x ≤ hi) ∨ (r = 0 ∧ (x < lo ∨ hi < x))))) args s 0 0 (xA h0) := ⟨_, rfl⟩
  rw [← eQ]
  generalize hHe : ([] : List Loc) = locs at hW ⊢
  obtain ⟨H, eH⟩ : ∃ H, H = s.heap := ⟨_, rfl⟩
  rw [← eH] at hW ⊢
  refine x_iload_n hx hb hl 0 rfl dX10_isIn_0 rfl ?_
  refine x_iload_n hx hb hl 1 rfl dX10_isIn_1 rfl ?_
  refine x_icmp_lt (tgt := 14) hx hb rx rlo dX10_isIn_2 (by decide) (fun c1 => ?_) (fun c1 => ?_)
  · skip
    refine x_iconst hx hb dX10_isIn_14 ?_
    rw [eQ]
    exact x_zret hx hb hr hlk hW (by omega) ⟨rfl, by omega⟩ dX10_isIn_15
  refine x_iload_n hx hb hl 0 rfl dX10_isIn_5 rfl ?_
  refine x_iload_n hx hb hl 2 rfl dX10_isIn_6 rfl ?_
  refine x_icmp_gt (tgt := 14) hx hb rx rhi dX10_isIn_7 (by decide) (fun c2 => ?_) (fun c2 => ?_)
  · skip
    refine x_iconst hx hb dX10_isIn_14 ?_
    rw [eQ]
    exact x_zret hx hb hr hlk hW (by omega) ⟨rfl, by omega⟩ dX10_isIn_15
  refine x_iconst hx hb dX10_isIn_10 ?_
  refine lv_goto (tgt := 15) hx hb dX10_isIn_11 (by decide) ?_
  rw [eQ]
  exact x_zret hx hb hr hlk hW (by omega) ⟨rfl, by omega⟩ dX10_isIn_15
set_option maxHeartbeats 4000000 in
set_option maxRecDepth 100000 in
theorem c_X10_holds2 (l : Launch) (D : va_G) (g : xG) (T : Nat × Nat × Nat) (h0 : Nat) (s0 : xS) (hσ : xRR s0) (ka : Nat) (hka : ka < 310) (hca : ∀ σ : xS, xcel h0 g σ ka = .inl (g.1, 2, .inl (fun j => xJ (σ ka j)))) (x : Int) (rx : xR x) (hx0 : x ≠ -1) (p0 : s0 ka = fun _ => (-1)) : Met l yX10_holds (xws yX10_holds cX10_holds 3 (some .boolean)) { frames := 0, cells := 0, slots := 0, locals := 0 } (xP [.ref (h0 + ka), .int (xJ x)] D g T h0 s0) (xQi D g h0 (fun r τ => s0 = τ ∧ (r = 0))) 0 0 (xA h0) := by
  refine x_met hσ (by decide) (Nat.le_of_ble_eq_true rfl) ?_
  intro p e s m args below meth c hx hb hr hml hown hT hlk hnm hE hW ls hl
  have hl : lv_has ls 3 [(0, .ref (h0 + ka)), (1, .int (xJ x))] := hl
  obtain ⟨Q, eQ⟩ : ∃ Q, Q = MQ below (xQi D g h0 (fun r τ => s0 = τ ∧ (r = 0))) args s 0 0 (xA h0) := ⟨_, rfl⟩
  rw [← eQ]
  generalize hHe : ([] : List Loc) = locs at hW ⊢
  obtain ⟨H, eH⟩ : ∃ H, H = s.heap := ⟨_, rfl⟩
  rw [← eH] at hW ⊢
  refine x_iconst hx hb dX10_holds_0 ?_
  refine lv_istore_n (lv' := [(2, .int (xJ 0)), (0, .ref (h0 + ka)), (1, .int (xJ x))]) hx hb dX10_holds_1 rfl hl (by decide) rfl (fun ls hl => ?_)
  have L2 : ∀ (fu : Nat) (i2_2 : Int) (ls : Array Slot), (xR i2_2) → (0 ≤ i2_2) → (2 - i2_2).toNat < fu → lv_has ls 3 [(0, .ref (h0 + ka)), (1, .int (xJ x)), (2, .int (xJ i2_2))] → W p l e { frames := 0, cells := 0, slots := 0, locals := 0 } s m args below meth c H locs 0 0 Q (F0 m 2 ls []) := by
    intro fu
    induction fu with
    | zero => intro i2_2 ls ri2_2 v2_0 hm; exact absurd hm (Nat.not_lt_zero _)
    | succ fu ih2 =>
      intro i2_2 ls ri2_2 v2_0 hm  hl
      refine x_iload_n hx hb hl 2 rfl dX10_holds_2 rfl ?_
      refine x_aload_n hx hb hl 0 rfl dX10_holds_3 rfl ?_
      refine x_alen (n := 2) (t0 := 0) hx hb hE hW (Or.inl hka) (hca _) rfl rfl dX10_holds_4 ?_
      refine x_icmp_ge (tgt := 23) hx hb ri2_2 (by decide) dX10_holds_5 (by decide) (fun c1 => ?_) (fun c1 => ?_)
      · skip
        refine x_iconst hx hb dX10_holds_23 ?_
        rw [eQ]
        exact x_zret hx hb hr hlk hW (by omega) ⟨rfl, by omega⟩ dX10_holds_24
      refine x_aload_n hx hb hl 0 rfl dX10_holds_8 rfl ?_
      refine x_iload_n hx hb hl 2 rfl dX10_holds_9 rfl ?_
      refine x_iald hx hb hE hW (Or.inl hka) (hca _) (by omega) (by decide) dX10_holds_10 ?_
      refine x_rd hW (fun x2 ex2 rx2 => ?_)
      have fx2 : x2 = (-1) := by rw [ex2, p0]
      refine x_iload_n hx hb hl 1 rfl dX10_holds_11 rfl ?_
      refine x_icmp_ne (tgt := 17) hx hb rx2 rx dX10_holds_12 (by decide) (fun c3 => ?_) (fun c3 => False.elim (by omega))
      refine x_iinc (lv' := [(2, .int (xJ (i2_2 + 1))), (0, .ref (h0 + ka)), (1, .int (xJ x))]) hx hb hl 2 rfl dX10_holds_17 (by decide) rfl (fun ls hl => ?_)
      refine lv_goto (tgt := 2) hx hb dX10_holds_20 (by decide) ?_
      exact ih2 (i2_2 + 1) ls (by omega) (by omega) (by omega)  (lv_sub hl [1, 2, 0] rfl)
  exact L2 ((2 - 0 : Int).toNat + 1) 0 ls (by decide) (by omega) (Nat.lt_succ_self _)  (lv_sub hl [1, 2, 0] rfl)
set_option maxHeartbeats 4000000 in
set_option maxRecDepth 100000 in
theorem c_X10_bitsOfTold2 (l : Launch) (D : va_G) (g : xG) (T : Nat × Nat × Nat) (h0 : Nat) (s0 : xS) (hσ : xRR s0) (ka : Nat) (hka : ka < 310) (hca : ∀ σ : xS, xcel h0 g σ ka = .inl (g.1, 2, .inl (fun j => xJ (σ ka j)))) (p0 : s0 ka = fun _ => (-1)) : Met l yX10_bitsOfTold (xws yX10_bitsOfTold cX10_bitsOfTold 3 (some .int)) { frames := 0, cells := 0, slots := 0, locals := 0 } (xP [.ref (h0 + ka)] D g T h0 s0) (xQi D g h0 (fun r τ => s0 = τ ∧ (r = 0))) 0 0 (xA h0) := by
  refine x_met hσ (by decide) (Nat.le_of_ble_eq_true rfl) ?_
  intro p e s m args below meth c hx hb hr hml hown hT hlk hnm hE hW ls hl
  have hl : lv_has ls 3 [(0, .ref (h0 + ka))] := hl
  obtain ⟨Q, eQ⟩ : ∃ Q, Q = MQ below (xQi D g h0 (fun r τ => s0 = τ ∧ (r = 0))) args s 0 0 (xA h0) := ⟨_, rfl⟩
  rw [← eQ]
  generalize hHe : ([] : List Loc) = locs at hW ⊢
  obtain ⟨H, eH⟩ : ∃ H, H = s.heap := ⟨_, rfl⟩
  rw [← eH] at hW ⊢
  refine x_iconst hx hb dX10_bitsOfTold_0 ?_
  refine lv_istore_n (lv' := [(1, .int (xJ 0)), (0, .ref (h0 + ka))]) hx hb dX10_bitsOfTold_1 rfl hl (by decide) rfl (fun ls hl => ?_)
  refine x_iconst hx hb dX10_bitsOfTold_2 ?_
  refine lv_istore_n (lv' := [(2, .int (xJ 0)), (1, .int (xJ 0)), (0, .ref (h0 + ka))]) hx hb dX10_bitsOfTold_3 rfl hl (by decide) rfl (fun ls hl => ?_)
  have L4 : ∀ (fu : Nat) (i2_4 : Int) (ls : Array Slot), (xR i2_4) → (0 ≤ i2_4) → (0 = 0) → (2 - i2_4).toNat < fu → lv_has ls 3 [(0, .ref (h0 + ka)), (1, .int (xJ 0)), (2, .int (xJ i2_4))] → W p l e { frames := 0, cells := 0, slots := 0, locals := 0 } s m args below meth c H locs 0 0 Q (F0 m 4 ls []) := by
    intro fu
    induction fu with
    | zero => intro i2_4 ls ri2_4 v4_0 v4_1 hm; exact absurd hm (Nat.not_lt_zero _)
    | succ fu ih4 =>
      intro i2_4 ls ri2_4 v4_0 v4_1 hm  hl
      refine x_iload_n hx hb hl 2 rfl dX10_bitsOfTold_4 rfl ?_
      refine x_aload_n hx hb hl 0 rfl dX10_bitsOfTold_5 rfl ?_
      refine x_alen (n := 2) (t0 := 0) hx hb hE hW (Or.inl hka) (hca _) rfl rfl dX10_bitsOfTold_6 ?_
      refine x_icmp_ge (tgt := 29) hx hb ri2_4 (by decide) dX10_bitsOfTold_7 (by decide) (fun c1 => ?_) (fun c1 => ?_)
      · skip
        refine x_iload_n hx hb hl 1 rfl dX10_bitsOfTold_29 rfl ?_
        rw [eQ]
        exact x_iret hx hb hr hlk hW (by decide) ⟨rfl, by omega⟩ dX10_bitsOfTold_30
      refine x_aload_n hx hb hl 0 rfl dX10_bitsOfTold_10 rfl ?_
      refine x_iload_n hx hb hl 2 rfl dX10_bitsOfTold_11 rfl ?_
      refine x_iald hx hb hE hW (Or.inl hka) (hca _) (by omega) (by decide) dX10_bitsOfTold_12 ?_
      refine x_rd hW (fun x2 ex2 rx2 => ?_)
      have fx2 : x2 = (-1) := by rw [ex2, p0]
      refine x_iconst hx hb dX10_bitsOfTold_13 ?_
      refine x_icmp_eq (tgt := 23) hx hb rx2 (by decide) dX10_bitsOfTold_14 (by decide) (fun c3 => ?_) (fun c3 => False.elim (by omega))
      refine x_iinc (lv' := [(2, .int (xJ (i2_4 + 1))), (0, .ref (h0 + ka)), (1, .int (xJ 0))]) hx hb hl 2 rfl dX10_bitsOfTold_23 (by decide) rfl (fun ls hl => ?_)
      refine lv_goto (tgt := 4) hx hb dX10_bitsOfTold_26 (by decide) ?_
      exact ih4 (i2_4 + 1) ls (by omega) (by omega) (by omega) (by omega)  (lv_sub hl [1, 2, 0] rfl)
  exact L4 ((2 - 0 : Int).toNat + 1) 0 ls (by decide) (by omega) (by omega) (Nat.lt_succ_self _)  (lv_sub hl [2, 1, 0] rfl)
set_option maxHeartbeats 4000000 in
set_option maxRecDepth 100000 in
theorem c_X10_holds10 (l : Launch) (D : va_G) (g : xG) (T : Nat × Nat × Nat) (h0 : Nat) (s0 : xS) (hσ : xRR s0) (ka : Nat) (hka : ka < 310) (hca : ∀ σ : xS, xcel h0 g σ ka = .inl (g.1, 10, .inl (fun j => xJ (σ ka j)))) (x : Int) (rx : xR x) (hx0 : x ≠ -1) (p0 : s0 ka = fun _ => (-1)) : Met l yX10_holds (xws yX10_holds cX10_holds 3 (some .boolean)) { frames := 0, cells := 0, slots := 0, locals := 0 } (xP [.ref (h0 + ka), .int (xJ x)] D g T h0 s0) (xQi D g h0 (fun r τ => s0 = τ ∧ (r = 0))) 0 0 (xA h0) := by
  refine x_met hσ (by decide) (Nat.le_of_ble_eq_true rfl) ?_
  intro p e s m args below meth c hx hb hr hml hown hT hlk hnm hE hW ls hl
  have hl : lv_has ls 3 [(0, .ref (h0 + ka)), (1, .int (xJ x))] := hl
  obtain ⟨Q, eQ⟩ : ∃ Q, Q = MQ below (xQi D g h0 (fun r τ => s0 = τ ∧ (r = 0))) args s 0 0 (xA h0) := ⟨_, rfl⟩
  rw [← eQ]
  generalize hHe : ([] : List Loc) = locs at hW ⊢
  obtain ⟨H, eH⟩ : ∃ H, H = s.heap := ⟨_, rfl⟩
  rw [← eH] at hW ⊢
  refine x_iconst hx hb dX10_holds_0 ?_
  refine lv_istore_n (lv' := [(2, .int (xJ 0)), (0, .ref (h0 + ka)), (1, .int (xJ x))]) hx hb dX10_holds_1 rfl hl (by decide) rfl (fun ls hl => ?_)
  have L2 : ∀ (fu : Nat) (i2_2 : Int) (ls : Array Slot), (xR i2_2) → (0 ≤ i2_2) → (10 - i2_2).toNat < fu → lv_has ls 3 [(0, .ref (h0 + ka)), (1, .int (xJ x)), (2, .int (xJ i2_2))] → W p l e { frames := 0, cells := 0, slots := 0, locals := 0 } s m args below meth c H locs 0 0 Q (F0 m 2 ls []) := by
    intro fu
    induction fu with
    | zero => intro i2_2 ls ri2_2 v2_0 hm; exact absurd hm (Nat.not_lt_zero _)
    | succ fu ih2 =>
      intro i2_2 ls ri2_2 v2_0 hm  hl
      refine x_iload_n hx hb hl 2 rfl dX10_holds_2 rfl ?_
      refine x_aload_n hx hb hl 0 rfl dX10_holds_3 rfl ?_
      refine x_alen (n := 10) (t0 := 0) hx hb hE hW (Or.inl hka) (hca _) rfl rfl dX10_holds_4 ?_
      refine x_icmp_ge (tgt := 23) hx hb ri2_2 (by decide) dX10_holds_5 (by decide) (fun c1 => ?_) (fun c1 => ?_)
      · skip
        refine x_iconst hx hb dX10_holds_23 ?_
        rw [eQ]
        exact x_zret hx hb hr hlk hW (by omega) ⟨rfl, by omega⟩ dX10_holds_24
      refine x_aload_n hx hb hl 0 rfl dX10_holds_8 rfl ?_
      refine x_iload_n hx hb hl 2 rfl dX10_holds_9 rfl ?_
      refine x_iald hx hb hE hW (Or.inl hka) (hca _) (by omega) (by decide) dX10_holds_10 ?_
      refine x_rd hW (fun x2 ex2 rx2 => ?_)
      have fx2 : x2 = (-1) := by rw [ex2, p0]
      refine x_iload_n hx hb hl 1 rfl dX10_holds_11 rfl ?_
      refine x_icmp_ne (tgt := 17) hx hb rx2 rx dX10_holds_12 (by decide) (fun c3 => ?_) (fun c3 => False.elim (by omega))
      refine x_iinc (lv' := [(2, .int (xJ (i2_2 + 1))), (0, .ref (h0 + ka)), (1, .int (xJ x))]) hx hb hl 2 rfl dX10_holds_17 (by decide) rfl (fun ls hl => ?_)
      refine lv_goto (tgt := 2) hx hb dX10_holds_20 (by decide) ?_
      exact ih2 (i2_2 + 1) ls (by omega) (by omega) (by omega)  (lv_sub hl [1, 2, 0] rfl)
  exact L2 ((10 - 0 : Int).toNat + 1) 0 ls (by decide) (by omega) (Nat.lt_succ_self _)  (lv_sub hl [1, 2, 0] rfl)
set_option maxHeartbeats 4000000 in
set_option maxRecDepth 100000 in
theorem c_X10_bitsOfTold10 (l : Launch) (D : va_G) (g : xG) (T : Nat × Nat × Nat) (h0 : Nat) (s0 : xS) (hσ : xRR s0) (ka : Nat) (hka : ka < 310) (hca : ∀ σ : xS, xcel h0 g σ ka = .inl (g.1, 10, .inl (fun j => xJ (σ ka j)))) (p0 : s0 ka = fun _ => (-1)) : Met l yX10_bitsOfTold (xws yX10_bitsOfTold cX10_bitsOfTold 3 (some .int)) { frames := 0, cells := 0, slots := 0, locals := 0 } (xP [.ref (h0 + ka)] D g T h0 s0) (xQi D g h0 (fun r τ => s0 = τ ∧ (r = 0))) 0 0 (xA h0) := by
  refine x_met hσ (by decide) (Nat.le_of_ble_eq_true rfl) ?_
  intro p e s m args below meth c hx hb hr hml hown hT hlk hnm hE hW ls hl
  have hl : lv_has ls 3 [(0, .ref (h0 + ka))] := hl
  obtain ⟨Q, eQ⟩ : ∃ Q, Q = MQ below (xQi D g h0 (fun r τ => s0 = τ ∧ (r = 0))) args s 0 0 (xA h0) := ⟨_, rfl⟩
  rw [← eQ]
  generalize hHe : ([] : List Loc) = locs at hW ⊢
  obtain ⟨H, eH⟩ : ∃ H, H = s.heap := ⟨_, rfl⟩
  rw [← eH] at hW ⊢
  refine x_iconst hx hb dX10_bitsOfTold_0 ?_
  refine lv_istore_n (lv' := [(1, .int (xJ 0)), (0, .ref (h0 + ka))]) hx hb dX10_bitsOfTold_1 rfl hl (by decide) rfl (fun ls hl => ?_)
  refine x_iconst hx hb dX10_bitsOfTold_2 ?_
  refine lv_istore_n (lv' := [(2, .int (xJ 0)), (1, .int (xJ 0)), (0, .ref (h0 + ka))]) hx hb dX10_bitsOfTold_3 rfl hl (by decide) rfl (fun ls hl => ?_)
  have L4 : ∀ (fu : Nat) (i2_4 : Int) (ls : Array Slot), (xR i2_4) → (0 ≤ i2_4) → (0 = 0) → (10 - i2_4).toNat < fu → lv_has ls 3 [(0, .ref (h0 + ka)), (1, .int (xJ 0)), (2, .int (xJ i2_4))] → W p l e { frames := 0, cells := 0, slots := 0, locals := 0 } s m args below meth c H locs 0 0 Q (F0 m 4 ls []) := by
    intro fu
    induction fu with
    | zero => intro i2_4 ls ri2_4 v4_0 v4_1 hm; exact absurd hm (Nat.not_lt_zero _)
    | succ fu ih4 =>
      intro i2_4 ls ri2_4 v4_0 v4_1 hm  hl
      refine x_iload_n hx hb hl 2 rfl dX10_bitsOfTold_4 rfl ?_
      refine x_aload_n hx hb hl 0 rfl dX10_bitsOfTold_5 rfl ?_
      refine x_alen (n := 10) (t0 := 0) hx hb hE hW (Or.inl hka) (hca _) rfl rfl dX10_bitsOfTold_6 ?_
      refine x_icmp_ge (tgt := 29) hx hb ri2_4 (by decide) dX10_bitsOfTold_7 (by decide) (fun c1 => ?_) (fun c1 => ?_)
      · skip
        refine x_iload_n hx hb hl 1 rfl dX10_bitsOfTold_29 rfl ?_
        rw [eQ]
        exact x_iret hx hb hr hlk hW (by decide) ⟨rfl, by omega⟩ dX10_bitsOfTold_30
      refine x_aload_n hx hb hl 0 rfl dX10_bitsOfTold_10 rfl ?_
      refine x_iload_n hx hb hl 2 rfl dX10_bitsOfTold_11 rfl ?_
      refine x_iald hx hb hE hW (Or.inl hka) (hca _) (by omega) (by decide) dX10_bitsOfTold_12 ?_
      refine x_rd hW (fun x2 ex2 rx2 => ?_)
      have fx2 : x2 = (-1) := by rw [ex2, p0]
      refine x_iconst hx hb dX10_bitsOfTold_13 ?_
      refine x_icmp_eq (tgt := 23) hx hb rx2 (by decide) dX10_bitsOfTold_14 (by decide) (fun c3 => ?_) (fun c3 => False.elim (by omega))
      refine x_iinc (lv' := [(2, .int (xJ (i2_4 + 1))), (0, .ref (h0 + ka)), (1, .int (xJ 0))]) hx hb hl 2 rfl dX10_bitsOfTold_23 (by decide) rfl (fun ls hl => ?_)
      refine lv_goto (tgt := 4) hx hb dX10_bitsOfTold_26 (by decide) ?_
      exact ih4 (i2_4 + 1) ls (by omega) (by omega) (by omega) (by omega)  (lv_sub hl [1, 2, 0] rfl)
  exact L4 ((10 - 0 : Int).toNat + 1) 0 ls (by decide) (by omega) (by omega) (Nat.lt_succ_self _)  (lv_sub hl [2, 1, 0] rfl)
set_option maxHeartbeats 4000000 in
set_option maxRecDepth 100000 in
theorem c_X10_holds4 (l : Launch) (D : va_G) (g : xG) (T : Nat × Nat × Nat) (h0 : Nat) (s0 : xS) (hσ : xRR s0) (ka : Nat) (hka : ka < 310) (hca : ∀ σ : xS, xcel h0 g σ ka = .inl (g.1, 4, .inl (fun j => xJ (σ ka j)))) (x : Int) (rx : xR x) (hx0 : x ≠ -1) (p0 : s0 ka = fun _ => (-1)) : Met l yX10_holds (xws yX10_holds cX10_holds 3 (some .boolean)) { frames := 0, cells := 0, slots := 0, locals := 0 } (xP [.ref (h0 + ka), .int (xJ x)] D g T h0 s0) (xQi D g h0 (fun r τ => s0 = τ ∧ (r = 0))) 0 0 (xA h0) := by
  refine x_met hσ (by decide) (Nat.le_of_ble_eq_true rfl) ?_
  intro p e s m args below meth c hx hb hr hml hown hT hlk hnm hE hW ls hl
  have hl : lv_has ls 3 [(0, .ref (h0 + ka)), (1, .int (xJ x))] := hl
  obtain ⟨Q, eQ⟩ : ∃ Q, Q = MQ below (xQi D g h0 (fun r τ => s0 = τ ∧ (r = 0))) args s 0 0 (xA h0) := ⟨_, rfl⟩
  rw [← eQ]
  generalize hHe : ([] : List Loc) = locs at hW ⊢
  obtain ⟨H, eH⟩ : ∃ H, H = s.heap := ⟨_, rfl⟩
  rw [← eH] at hW ⊢
  refine x_iconst hx hb dX10_holds_0 ?_
  refine lv_istore_n (lv' := [(2, .int (xJ 0)), (0, .ref (h0 + ka)), (1, .int (xJ x))]) hx hb dX10_holds_1 rfl hl (by decide) rfl (fun ls hl => ?_)
  have L2 : ∀ (fu : Nat) (i2_2 : Int) (ls : Array Slot), (xR i2_2) → (0 ≤ i2_2) → (4 - i2_2).toNat < fu → lv_has ls 3 [(0, .ref (h0 + ka)), (1, .int (xJ x)), (2, .int (xJ i2_2))] → W p l e { frames := 0, cells := 0, slots := 0, locals := 0 } s m args below meth c H locs 0 0 Q (F0 m 2 ls []) := by
    intro fu
    induction fu with
    | zero => intro i2_2 ls ri2_2 v2_0 hm; exact absurd hm (Nat.not_lt_zero _)
    | succ fu ih2 =>
      intro i2_2 ls ri2_2 v2_0 hm  hl
      refine x_iload_n hx hb hl 2 rfl dX10_holds_2 rfl ?_
      refine x_aload_n hx hb hl 0 rfl dX10_holds_3 rfl ?_
      refine x_alen (n := 4) (t0 := 0) hx hb hE hW (Or.inl hka) (hca _) rfl rfl dX10_holds_4 ?_
      refine x_icmp_ge (tgt := 23) hx hb ri2_2 (by decide) dX10_holds_5 (by decide) (fun c1 => ?_) (fun c1 => ?_)
      · skip
        refine x_iconst hx hb dX10_holds_23 ?_
        rw [eQ]
        exact x_zret hx hb hr hlk hW (by omega) ⟨rfl, by omega⟩ dX10_holds_24
      refine x_aload_n hx hb hl 0 rfl dX10_holds_8 rfl ?_
      refine x_iload_n hx hb hl 2 rfl dX10_holds_9 rfl ?_
      refine x_iald hx hb hE hW (Or.inl hka) (hca _) (by omega) (by decide) dX10_holds_10 ?_
      refine x_rd hW (fun x2 ex2 rx2 => ?_)
      have fx2 : x2 = (-1) := by rw [ex2, p0]
      refine x_iload_n hx hb hl 1 rfl dX10_holds_11 rfl ?_
      refine x_icmp_ne (tgt := 17) hx hb rx2 rx dX10_holds_12 (by decide) (fun c3 => ?_) (fun c3 => False.elim (by omega))
      refine x_iinc (lv' := [(2, .int (xJ (i2_2 + 1))), (0, .ref (h0 + ka)), (1, .int (xJ x))]) hx hb hl 2 rfl dX10_holds_17 (by decide) rfl (fun ls hl => ?_)
      refine lv_goto (tgt := 2) hx hb dX10_holds_20 (by decide) ?_
      exact ih2 (i2_2 + 1) ls (by omega) (by omega) (by omega)  (lv_sub hl [1, 2, 0] rfl)
  exact L2 ((4 - 0 : Int).toNat + 1) 0 ls (by decide) (by omega) (Nat.lt_succ_self _)  (lv_sub hl [1, 2, 0] rfl)
set_option maxHeartbeats 4000000 in
set_option maxRecDepth 100000 in
theorem c_X10_bitsOfTold4 (l : Launch) (D : va_G) (g : xG) (T : Nat × Nat × Nat) (h0 : Nat) (s0 : xS) (hσ : xRR s0) (ka : Nat) (hka : ka < 310) (hca : ∀ σ : xS, xcel h0 g σ ka = .inl (g.1, 4, .inl (fun j => xJ (σ ka j)))) (p0 : s0 ka = fun _ => (-1)) : Met l yX10_bitsOfTold (xws yX10_bitsOfTold cX10_bitsOfTold 3 (some .int)) { frames := 0, cells := 0, slots := 0, locals := 0 } (xP [.ref (h0 + ka)] D g T h0 s0) (xQi D g h0 (fun r τ => s0 = τ ∧ (r = 0))) 0 0 (xA h0) := by
  refine x_met hσ (by decide) (Nat.le_of_ble_eq_true rfl) ?_
  intro p e s m args below meth c hx hb hr hml hown hT hlk hnm hE hW ls hl
  have hl : lv_has ls 3 [(0, .ref (h0 + ka))] := hl
  obtain ⟨Q, eQ⟩ : ∃ Q, Q = MQ below (xQi D g h0 (fun r τ => s0 = τ ∧ (r = 0))) args s 0 0 (xA h0) := ⟨_, rfl⟩
  rw [← eQ]
  generalize hHe : ([] : List Loc) = locs at hW ⊢
  obtain ⟨H, eH⟩ : ∃ H, H = s.heap := ⟨_, rfl⟩
  rw [← eH] at hW ⊢
  refine x_iconst hx hb dX10_bitsOfTold_0 ?_
  refine lv_istore_n (lv' := [(1, .int (xJ 0)), (0, .ref (h0 + ka))]) hx hb dX10_bitsOfTold_1 rfl hl (by decide) rfl (fun ls hl => ?_)
  refine x_iconst hx hb dX10_bitsOfTold_2 ?_
  refine lv_istore_n (lv' := [(2, .int (xJ 0)), (1, .int (xJ 0)), (0, .ref (h0 + ka))]) hx hb dX10_bitsOfTold_3 rfl hl (by decide) rfl (fun ls hl => ?_)
  have L4 : ∀ (fu : Nat) (i2_4 : Int) (ls : Array Slot), (xR i2_4) → (0 ≤ i2_4) → (0 = 0) → (4 - i2_4).toNat < fu → lv_has ls 3 [(0, .ref (h0 + ka)), (1, .int (xJ 0)), (2, .int (xJ i2_4))] → W p l e { frames := 0, cells := 0, slots := 0, locals := 0 } s m args below meth c H locs 0 0 Q (F0 m 4 ls []) := by
    intro fu
    induction fu with
    | zero => intro i2_4 ls ri2_4 v4_0 v4_1 hm; exact absurd hm (Nat.not_lt_zero _)
    | succ fu ih4 =>
      intro i2_4 ls ri2_4 v4_0 v4_1 hm  hl
      refine x_iload_n hx hb hl 2 rfl dX10_bitsOfTold_4 rfl ?_
      refine x_aload_n hx hb hl 0 rfl dX10_bitsOfTold_5 rfl ?_
      refine x_alen (n := 4) (t0 := 0) hx hb hE hW (Or.inl hka) (hca _) rfl rfl dX10_bitsOfTold_6 ?_
      refine x_icmp_ge (tgt := 29) hx hb ri2_4 (by decide) dX10_bitsOfTold_7 (by decide) (fun c1 => ?_) (fun c1 => ?_)
      · skip
        refine x_iload_n hx hb hl 1 rfl dX10_bitsOfTold_29 rfl ?_
        rw [eQ]
        exact x_iret hx hb hr hlk hW (by decide) ⟨rfl, by omega⟩ dX10_bitsOfTold_30
      refine x_aload_n hx hb hl 0 rfl dX10_bitsOfTold_10 rfl ?_
      refine x_iload_n hx hb hl 2 rfl dX10_bitsOfTold_11 rfl ?_
      refine x_iald hx hb hE hW (Or.inl hka) (hca _) (by omega) (by decide) dX10_bitsOfTold_12 ?_
      refine x_rd hW (fun x2 ex2 rx2 => ?_)
      have fx2 : x2 = (-1) := by rw [ex2, p0]
      refine x_iconst hx hb dX10_bitsOfTold_13 ?_
      refine x_icmp_eq (tgt := 23) hx hb rx2 (by decide) dX10_bitsOfTold_14 (by decide) (fun c3 => ?_) (fun c3 => False.elim (by omega))
      refine x_iinc (lv' := [(2, .int (xJ (i2_4 + 1))), (0, .ref (h0 + ka)), (1, .int (xJ 0))]) hx hb hl 2 rfl dX10_bitsOfTold_23 (by decide) rfl (fun ls hl => ?_)
      refine lv_goto (tgt := 4) hx hb dX10_bitsOfTold_26 (by decide) ?_
      exact ih4 (i2_4 + 1) ls (by omega) (by omega) (by omega) (by omega)  (lv_sub hl [1, 2, 0] rfl)
  exact L4 ((4 - 0 : Int).toNat + 1) 0 ls (by decide) (by omega) (by omega) (Nat.lt_succ_self _)  (lv_sub hl [2, 1, 0] rfl)
end
section
theorem cls_X0 : xCls RX0 TX0 6 0 tyX0 := ⟨xin [363, 365, 367, 369, 371, 373] (by decide +kernel) (by decide +kernel), rfl, tyX0_ok, nmX0⟩
theorem cls_X7 : xCls RX7 TX7 4 7 tyX7 := ⟨xin [342, 344, 346, 348] (by decide +kernel) (by decide +kernel), rfl, tyX7_ok, nmX7⟩
theorem st_X7_3 (h0 : Nat) (σ : xS) (k : Nat) (a : Int) : xobj h0 (xU σ k 3 a) k 7 = (xobj h0 σ k 7).set 3 (.int (xJ a)) := by simp [xobj, xU]
theorem ln_X7_3 (h0 : Nat) (σ : xS) (k : Nat) : 3 < (xobj h0 σ k 7).length := by simp [xobj]
theorem cf_X0_cast : xCF yX0_cast cX0_cast 6 none 3 := ⟨xq 825 (by decide +kernel) rfl, xq 174 (by decide +kernel) rfl, by decide +kernel⟩
theorem cf_X0_castCloudless : xCF yX0_castCloudless cX0_castCloudless 2 none 1 := ⟨xq 944 (by decide +kernel) rfl, xq 174 (by decide +kernel) rfl, by decide +kernel⟩
theorem cf_X0_castOfLamp : xCF yX0_castOfLamp cX0_castOfLamp 6 none 2 := ⟨xq 846 (by decide +kernel) rfl, xq 174 (by decide +kernel) rfl, by decide +kernel⟩
theorem cf_X0_felonsGo : xCF yX0_felonsGo cX0_felonsGo 8 none 3 := ⟨xq 876 (by decide +kernel) rfl, xq 174 (by decide +kernel) rfl, by decide +kernel⟩
theorem cf_X0_judgesStep : xCF yX0_judgesStep cX0_judgesStep 5 none 1 := ⟨xq 770 (by decide +kernel) rfl, xq 174 (by decide +kernel) rfl, by decide +kernel⟩
theorem cf_X0_lineUp : xCF yX0_lineUp cX0_lineUp 7 (some .int) 2 := ⟨xq 855 (by decide +kernel) rfl, xq 174 (by decide +kernel) rfl, by decide +kernel⟩
theorem cf_X10_holds : xCF yX10_holds cX10_holds 3 (some .boolean) 2 := ⟨xq 851 (by decide +kernel) rfl, xq 168 (by decide +kernel) rfl, by decide +kernel⟩
theorem cf_X2_draw : xCF yX2_draw cX2_draw 1 (some .int) 0 := ⟨xq 798 (by decide +kernel) rfl, xq 176 (by decide +kernel) rfl, by decide +kernel⟩
theorem cf_X2_hasJudge : xCF yX2_hasJudge cX2_hasJudge 2 (some .boolean) 1 := ⟨xq 774 (by decide +kernel) rfl, xq 176 (by decide +kernel) rfl, by decide +kernel⟩
theorem cf_X2_mustServe : xCF yX2_mustServe cX2_mustServe 2 (some .boolean) 1 := ⟨xq 859 (by decide +kernel) rfl, xq 176 (by decide +kernel) rfl, by decide +kernel⟩
theorem cf_X2_owedByAll : xCF yX2_owedByAll cX2_owedByAll 3 (some .int) 0 := ⟨xq 766 (by decide +kernel) rfl, xq 176 (by decide +kernel) rfl, by decide +kernel⟩
theorem cf_X4_isNight : xCF yX4_isNight cX4_isNight 3 (some .boolean) 1 := ⟨xq 820 (by decide +kernel) rfl, xq 171 (by decide +kernel) rfl, by decide +kernel⟩
theorem cf_X4_worthOf : xCF yX4_worthOf cX4_worthOf 4 (some .int) 2 := ⟨xq 803 (by decide +kernel) rfl, xq 171 (by decide +kernel) rfl, by decide +kernel⟩
theorem cf_X6_beside : xCF yX6_beside cX6_beside 4 (some .int) 2 := ⟨xq 785 (by decide +kernel) rfl, xq 170 (by decide +kernel) rfl, by decide +kernel⟩
theorem cf_X6_isSpot : xCF yX6_isSpot cX6_isSpot 1 (some .boolean) 1 := ⟨xq 832 (by decide +kernel) rfl, xq 170 (by decide +kernel) rfl, by decide +kernel⟩
theorem cf_X7_clear : xCF yX7_clear cX7_clear 3 none 0 := ⟨xq 829 (by decide +kernel) rfl, xq 175 (by decide +kernel) rfl, by decide +kernel⟩
theorem cf_X7_layersAt : xCF yX7_layersAt cX7_layersAt 2 (some .int) 1 := ⟨xq 900 (by decide +kernel) rfl, xq 175 (by decide +kernel) rfl, by decide +kernel⟩
theorem wq35 : Cond.selects yX2_owedByAll.cls yX2_owedByAll yX2_owedByAll ∈ xTB := xq 35 (by decide +kernel) rfl
theorem wq36 : Cond.selects yX0_judgesStep.cls yX0_judgesStep yX0_judgesStep ∈ xTB := xq 36 (by decide +kernel) rfl
theorem wq37 : Cond.selects yX2_hasJudge.cls yX2_hasJudge yX2_hasJudge ∈ xTB := xq 37 (by decide +kernel) rfl
theorem wq41 : Cond.selects yX2_draw.cls yX2_draw yX2_draw ∈ xTB := xq 41 (by decide +kernel) rfl
theorem wq42 : Cond.selects yX4_worthOf.cls yX4_worthOf yX4_worthOf ∈ xTB := xq 42 (by decide +kernel) rfl
theorem wq45 : Cond.selects yX4_isNight.cls yX4_isNight yX4_isNight ∈ xTB := xq 45 (by decide +kernel) rfl
theorem wq46 : Cond.selects yX0_cast.cls yX0_cast yX0_cast ∈ xTB := xq 46 (by decide +kernel) rfl
theorem wq47 : Cond.selects yX7_clear.cls yX7_clear yX7_clear ∈ xTB := xq 47 (by decide +kernel) rfl
theorem wq50 : Cond.selects yX0_castOfLamp.cls yX0_castOfLamp yX0_castOfLamp ∈ xTB := xq 50 (by decide +kernel) rfl
theorem wq51 : Cond.selects yX0_lineUp.cls yX0_lineUp yX0_lineUp ∈ xTB := xq 51 (by decide +kernel) rfl
theorem wq52 : Cond.selects yX2_mustServe.cls yX2_mustServe yX2_mustServe ∈ xTB := xq 52 (by decide +kernel) rfl
theorem wq56 : Cond.selects yX0_felonsGo.cls yX0_felonsGo yX0_felonsGo ∈ xTB := xq 56 (by decide +kernel) rfl
theorem wq61 : Cond.selects yX7_layersAt.cls yX7_layersAt yX7_layersAt ∈ xTB := xq 61 (by decide +kernel) rfl
theorem wq69 : Cond.selects yX0_castCloudless.cls yX0_castCloudless yX0_castCloudless ∈ xTB := xq 69 (by decide +kernel) rfl
theorem wq330 : Cond.fieldLink "ShadowCourt$Shadows" (9) "ShadowCourt$Shadows" "layers" "[I" ∈ xTB := xq 330 (by decide +kernel) rfl
theorem wq337 : Cond.fieldLink "ShadowCourt$Shadows" (22) "ShadowCourt$Shadows" "size" "I" ∈ xTB := xq 337 (by decide +kernel) rfl
theorem wq351 : Cond.fieldLink "ShadowCourt$Clock" (9) "ShadowCourt$Clock" "market" "LShadowCourt$Market;" ∈ xTB := xq 351 (by decide +kernel) rfl
theorem wq354 : Cond.fieldLink "ShadowCourt$Clock" (15) "ShadowCourt$Clock" "law" "LShadowCourt$Law;" ∈ xTB := xq 354 (by decide +kernel) rfl
theorem wq355 : Cond.fieldLink "ShadowCourt$Clock" (19) "ShadowCourt$Clock" "lampSpot" "[I" ∈ xTB := xq 355 (by decide +kernel) rfl
theorem wq357 : Cond.fieldLink "ShadowCourt$Clock" (26) "ShadowCourt$Clock" "shadows" "LShadowCourt$Shadows;" ∈ xTB := xq 357 (by decide +kernel) rfl
theorem wq765 : Cond.instanceMethod yX2_owedByAll ∈ xTB := xq 765 (by decide +kernel) rfl
theorem wq767 : Cond.methodLink "ShadowCourt$Clock" (46) yX0_judgesStep ∈ xTB := xq 767 (by decide +kernel) rfl
theorem wq769 : Cond.instanceMethod yX0_judgesStep ∈ xTB := xq 769 (by decide +kernel) rfl
theorem wq773 : Cond.instanceMethod yX2_hasJudge ∈ xTB := xq 773 (by decide +kernel) rfl
theorem wq784 : Cond.static yX6_beside ∈ xTB := xq 784 (by decide +kernel) rfl
theorem wq797 : Cond.instanceMethod yX2_draw ∈ xTB := xq 797 (by decide +kernel) rfl
theorem wq802 : Cond.instanceMethod yX4_worthOf ∈ xTB := xq 802 (by decide +kernel) rfl
theorem wq819 : Cond.instanceMethod yX4_isNight ∈ xTB := xq 819 (by decide +kernel) rfl
theorem wq822 : Cond.methodLink "ShadowCourt$Clock" (70) yX0_cast ∈ xTB := xq 822 (by decide +kernel) rfl
theorem wq824 : Cond.instanceMethod yX0_cast ∈ xTB := xq 824 (by decide +kernel) rfl
theorem wq828 : Cond.instanceMethod yX7_clear ∈ xTB := xq 828 (by decide +kernel) rfl
theorem wq831 : Cond.static yX6_isSpot ∈ xTB := xq 831 (by decide +kernel) rfl
theorem wq843 : Cond.methodLink "ShadowCourt$Clock" (111) yX0_castOfLamp ∈ xTB := xq 843 (by decide +kernel) rfl
theorem wq845 : Cond.instanceMethod yX0_castOfLamp ∈ xTB := xq 845 (by decide +kernel) rfl
theorem wq850 : Cond.static yX10_holds ∈ xTB := xq 850 (by decide +kernel) rfl
theorem wq852 : Cond.methodLink "ShadowCourt$Clock" (74) yX0_lineUp ∈ xTB := xq 852 (by decide +kernel) rfl
theorem wq854 : Cond.instanceMethod yX0_lineUp ∈ xTB := xq 854 (by decide +kernel) rfl
theorem wq858 : Cond.instanceMethod yX2_mustServe ∈ xTB := xq 858 (by decide +kernel) rfl
theorem wq873 : Cond.methodLink "ShadowCourt$Clock" (78) yX0_felonsGo ∈ xTB := xq 873 (by decide +kernel) rfl
theorem wq875 : Cond.instanceMethod yX0_felonsGo ∈ xTB := xq 875 (by decide +kernel) rfl
theorem wq899 : Cond.instanceMethod yX7_layersAt ∈ xTB := xq 899 (by decide +kernel) rfl
theorem wq941 : Cond.methodLink "ShadowCourt$Clock" (128) yX0_castCloudless ∈ xTB := xq 941 (by decide +kernel) rfl
theorem wq943 : Cond.instanceMethod yX0_castCloudless ∈ xTB := xq 943 (by decide +kernel) rfl
theorem wn340 : Cond.fieldLinkNest "ShadowCourt$Clock" (125) "ShadowCourt$Shadows" "size" "I" "ShadowCourt" ∈ xNL := xn 340 (by decide +kernel) rfl
theorem wn384 : Cond.fieldLinkNest "ShadowCourt$Clock" (89) "ShadowCourt$Day" "judgeSpot" "[I" "ShadowCourt" ∈ xNL := xn 384 (by decide +kernel) rfl
theorem wn402 : Cond.fieldLinkNest "ShadowCourt$Clock" (42) "ShadowCourt$Day" "minute" "I" "ShadowCourt" ∈ xNL := xn 402 (by decide +kernel) rfl
theorem wn763 : Cond.methodLinkNest "ShadowCourt$Clock" (36) yX2_owedByAll "ShadowCourt" ∈ xNL := xn 763 (by decide +kernel) rfl
theorem wn771 : Cond.methodLinkNest "ShadowCourt$Clock" (82) yX2_hasJudge "ShadowCourt" ∈ xNL := xn 771 (by decide +kernel) rfl
theorem wn783 : Cond.methodLinkNest "ShadowCourt$Clock" (92) yX6_beside "ShadowCourt" ∈ xNL := xn 783 (by decide +kernel) rfl
theorem wn791 : Cond.methodLinkNest "ShadowCourt$Clock" (50) yX4_tellMinute "ShadowCourt" ∈ xNL := xn 791 (by decide +kernel) rfl
theorem wn795 : Cond.methodLinkNest "ShadowCourt$Clock" (56) yX2_draw "ShadowCourt" ∈ xNL := xn 795 (by decide +kernel) rfl
theorem wn800 : Cond.methodLinkNest "ShadowCourt$Clock" (59) yX4_worthOf "ShadowCourt" ∈ xNL := xn 800 (by decide +kernel) rfl
theorem wn817 : Cond.methodLinkNest "ShadowCourt$Clock" (66) yX4_isNight "ShadowCourt" ∈ xNL := xn 817 (by decide +kernel) rfl
theorem wn826 : Cond.methodLinkNest "ShadowCourt$Clock" (100) yX7_clear "ShadowCourt" ∈ xNL := xn 826 (by decide +kernel) rfl
theorem wn830 : Cond.methodLinkNest "ShadowCourt$Shadows" (26) yX6_isSpot "ShadowCourt" ∈ xNL := xn 830 (by decide +kernel) rfl
theorem wn847 : Cond.fieldLinkNest "ShadowCourt$Clock" (115) "ShadowCourt" "WAY_X" "[I" "ShadowCourt" ∈ xNL := xn 847 (by decide +kernel) rfl
theorem wn848 : Cond.methodLinkNest "ShadowCourt$Clock" (118) yX6_kindAt "ShadowCourt" ∈ xNL := xn 848 (by decide +kernel) rfl
theorem wn849 : Cond.methodLinkNest "ShadowCourt$Clock" (121) yX10_holds "ShadowCourt" ∈ xNL := xn 849 (by decide +kernel) rfl
theorem wn856 : Cond.methodLinkNest "ShadowCourt$Clock" (152) yX2_mustServe "ShadowCourt" ∈ xNL := xn 856 (by decide +kernel) rfl
theorem wn897 : Cond.methodLinkNest "ShadowCourt$Clock" (131) yX7_layersAt "ShadowCourt" ∈ xNL := xn 897 (by decide +kernel) rfl
theorem dX0_cast_0 : decode cX0_cast 0 = .ok (.aload_n 0, 1) := by decide +kernel
theorem dX0_cast_1 : decode cX0_cast 1 = .ok (.getfield 26, 3) := by decide +kernel
theorem dX0_cast_4 : decode cX0_cast 4 = .ok (.invokevirtual 100, 3) := by decide +kernel
theorem dX0_cast_7 : decode cX0_cast 7 = .ok (.iconst 0, 1) := by decide +kernel
theorem dX0_cast_8 : decode cX0_cast 8 = .ok (.istore 4, 2) := by decide +kernel
theorem dX0_cast_10 : decode cX0_cast 10 = .ok (.iload 4, 2) := by decide +kernel
theorem dX0_cast_12 : decode cX0_cast 12 = .ok (.iconst 2, 1) := by decide +kernel
theorem dX0_cast_13 : decode cX0_cast 13 = .ok (.if_icmp .ge 84, 3) := by decide +kernel
theorem dX0_cast_16 : decode cX0_cast 16 = .ok (.iload_n 2, 1) := by decide +kernel
theorem dX0_cast_17 : decode cX0_cast 17 = .ok (.ifCond .eq 80, 3) := by decide +kernel
theorem dX0_cast_20 : decode cX0_cast 20 = .ok (.aload_n 1, 1) := by decide +kernel
theorem dX0_cast_21 : decode cX0_cast 21 = .ok (.iload 4, 2) := by decide +kernel
theorem dX0_cast_23 : decode cX0_cast 23 = .ok (.invokevirtual 82, 3) := by decide +kernel
theorem dX0_cast_26 : decode cX0_cast 26 = .ok (.ifCond .eq 65, 3) := by decide +kernel
theorem dX0_cast_29 : decode cX0_cast 29 = .ok (.aload_n 0, 1) := by decide +kernel
theorem dX0_cast_30 : decode cX0_cast 30 = .ok (.getfield 15, 3) := by decide +kernel
theorem dX0_cast_33 : decode cX0_cast 33 = .ok (.aload_n 1, 1) := by decide +kernel
theorem dX0_cast_34 : decode cX0_cast 34 = .ok (.getfield 42, 3) := by decide +kernel
theorem dX0_cast_37 : decode cX0_cast 37 = .ok (.iload 4, 2) := by decide +kernel
theorem dX0_cast_39 : decode cX0_cast 39 = .ok (.invokevirtual 103, 3) := by decide +kernel
theorem dX0_cast_42 : decode cX0_cast 42 = .ok (.aload_n 0, 1) := by decide +kernel
theorem dX0_cast_43 : decode cX0_cast 43 = .ok (.getfield 15, 3) := by decide +kernel
theorem dX0_cast_46 : decode cX0_cast 46 = .ok (.bipush 108, 2) := by decide +kernel
theorem dX0_cast_48 : decode cX0_cast 48 = .ok (.bipush 9, 2) := by decide +kernel
theorem dX0_cast_50 : decode cX0_cast 50 = .ok (.invokevirtual 59, 3) := by decide +kernel
theorem dX0_cast_53 : decode cX0_cast 53 = .ok (.istore 5, 2) := by decide +kernel
theorem dX0_cast_55 : decode cX0_cast 55 = .ok (.iload 5, 2) := by decide +kernel
theorem dX0_cast_57 : decode cX0_cast 57 = .ok (.ifCond .le 34, 3) := by decide +kernel
theorem dX0_cast_60 : decode cX0_cast 60 = .ok (.aload_n 0, 1) := by decide +kernel
theorem dX0_cast_61 : decode cX0_cast 61 = .ok (.getfield 26, 3) := by decide +kernel
theorem dX0_cast_64 : decode cX0_cast 64 = .ok (.aload_n 0, 1) := by decide +kernel
theorem dX0_cast_65 : decode cX0_cast 65 = .ok (.getfield 9, 3) := by decide +kernel
theorem dX0_cast_68 : decode cX0_cast 68 = .ok (.aload_n 1, 1) := by decide +kernel
theorem dX0_cast_69 : decode cX0_cast 69 = .ok (.getfield 89, 3) := by decide +kernel
theorem dX0_cast_72 : decode cX0_cast 72 = .ok (.iload 4, 2) := by decide +kernel
theorem dX0_cast_74 : decode cX0_cast 74 = .ok (.iaload, 1) := by decide +kernel
theorem dX0_cast_75 : decode cX0_cast 75 = .ok (.aload_n 0, 1) := by decide +kernel
theorem dX0_cast_76 : decode cX0_cast 76 = .ok (.getfield 15, 3) := by decide +kernel
theorem dX0_cast_79 : decode cX0_cast 79 = .ok (.bipush 97, 2) := by decide +kernel
theorem dX0_cast_81 : decode cX0_cast 81 = .ok (.bipush 7, 2) := by decide +kernel
theorem dX0_cast_83 : decode cX0_cast 83 = .ok (.invokevirtual 59, 3) := by decide +kernel
theorem dX0_cast_86 : decode cX0_cast 86 = .ok (.iload 5, 2) := by decide +kernel
theorem dX0_cast_88 : decode cX0_cast 88 = .ok (.invokevirtual 107, 3) := by decide +kernel
theorem dX0_cast_91 : decode cX0_cast 91 = .ok (.iinc 4 1, 3) := by decide +kernel
theorem dX0_cast_94 : decode cX0_cast 94 = .ok (.goto (-84), 3) := by decide +kernel
theorem dX0_cast_97 : decode cX0_cast 97 = .ok (.iconst 0, 1) := by decide +kernel
theorem dX0_cast_98 : decode cX0_cast 98 = .ok (.istore 4, 2) := by decide +kernel
theorem dX0_cast_100 : decode cX0_cast 100 = .ok (.iload 4, 2) := by decide +kernel
theorem dX0_cast_102 : decode cX0_cast 102 = .ok (.iconst 4, 1) := by decide +kernel
theorem dX0_cast_103 : decode cX0_cast 103 = .ok (.if_icmp .ge 25, 3) := by decide +kernel
theorem dX0_cast_106 : decode cX0_cast 106 = .ok (.iload_n 3, 1) := by decide +kernel
theorem dX0_cast_107 : decode cX0_cast 107 = .ok (.ifCond .eq 21, 3) := by decide +kernel
theorem dX0_cast_110 : decode cX0_cast 110 = .ok (.aload_n 0, 1) := by decide +kernel
theorem dX0_cast_111 : decode cX0_cast 111 = .ok (.aload_n 1, 1) := by decide +kernel
theorem dX0_cast_112 : decode cX0_cast 112 = .ok (.aload_n 0, 1) := by decide +kernel
theorem dX0_cast_113 : decode cX0_cast 113 = .ok (.getfield 19, 3) := by decide +kernel
theorem dX0_cast_116 : decode cX0_cast 116 = .ok (.iload 4, 2) := by decide +kernel
theorem dX0_cast_118 : decode cX0_cast 118 = .ok (.iaload, 1) := by decide +kernel
theorem dX0_cast_119 : decode cX0_cast 119 = .ok (.invokevirtual 111, 3) := by decide +kernel
theorem dX0_cast_122 : decode cX0_cast 122 = .ok (.iinc 4 1, 3) := by decide +kernel
theorem dX0_cast_125 : decode cX0_cast 125 = .ok (.goto (-25), 3) := by decide +kernel
theorem dX0_cast_128 : decode cX0_cast 128 = .ok (.return_, 1) := by decide +kernel
theorem dX0_castCloudless_0 : decode cX0_castCloudless 0 = .ok (.aload_n 0, 1) := by decide +kernel
theorem dX0_castCloudless_1 : decode cX0_castCloudless 1 = .ok (.aload_n 1, 1) := by decide +kernel
theorem dX0_castCloudless_2 : decode cX0_castCloudless 2 = .ok (.iconst 1, 1) := by decide +kernel
theorem dX0_castCloudless_3 : decode cX0_castCloudless 3 = .ok (.aload_n 0, 1) := by decide +kernel
theorem dX0_castCloudless_4 : decode cX0_castCloudless 4 = .ok (.getfield 15, 3) := by decide +kernel
theorem dX0_castCloudless_7 : decode cX0_castCloudless 7 = .ok (.aload_n 1, 1) := by decide +kernel
theorem dX0_castCloudless_8 : decode cX0_castCloudless 8 = .ok (.getfield 42, 3) := by decide +kernel
theorem dX0_castCloudless_11 : decode cX0_castCloudless 11 = .ok (.invokevirtual 66, 3) := by decide +kernel
theorem dX0_castCloudless_14 : decode cX0_castCloudless 14 = .ok (.invokevirtual 70, 3) := by decide +kernel
theorem dX0_castCloudless_17 : decode cX0_castCloudless 17 = .ok (.return_, 1) := by decide +kernel
theorem dX0_castOfLamp_0 : decode cX0_castOfLamp 0 = .ok (.iconst 0, 1) := by decide +kernel
theorem dX0_castOfLamp_1 : decode cX0_castOfLamp 1 = .ok (.istore_n 3, 1) := by decide +kernel
theorem dX0_castOfLamp_2 : decode cX0_castOfLamp 2 = .ok (.iload_n 3, 1) := by decide +kernel
theorem dX0_castOfLamp_3 : decode cX0_castOfLamp 3 = .ok (.getstatic 115, 3) := by decide +kernel
theorem dX0_castOfLamp_6 : decode cX0_castOfLamp 6 = .ok (.arraylength, 1) := by decide +kernel
theorem dX0_castOfLamp_7 : decode cX0_castOfLamp 7 = .ok (.if_icmp .ge 83, 3) := by decide +kernel
theorem dX0_castOfLamp_10 : decode cX0_castOfLamp 10 = .ok (.iload_n 2, 1) := by decide +kernel
theorem dX0_castOfLamp_11 : decode cX0_castOfLamp 11 = .ok (.iconst (-1), 1) := by decide +kernel
theorem dX0_castOfLamp_12 : decode cX0_castOfLamp 12 = .ok (.if_icmp .eq 78, 3) := by decide +kernel
theorem dX0_castOfLamp_15 : decode cX0_castOfLamp 15 = .ok (.iload_n 2, 1) := by decide +kernel
theorem dX0_castOfLamp_16 : decode cX0_castOfLamp 16 = .ok (.istore 4, 2) := by decide +kernel
theorem dX0_castOfLamp_18 : decode cX0_castOfLamp 18 = .ok (.iconst 0, 1) := by decide +kernel
theorem dX0_castOfLamp_19 : decode cX0_castOfLamp 19 = .ok (.istore 5, 2) := by decide +kernel
theorem dX0_castOfLamp_21 : decode cX0_castOfLamp 21 = .ok (.iload 5, 2) := by decide +kernel
theorem dX0_castOfLamp_23 : decode cX0_castOfLamp 23 = .ok (.iconst 4, 1) := by decide +kernel
theorem dX0_castOfLamp_24 : decode cX0_castOfLamp 24 = .ok (.if_icmp .ge 60, 3) := by decide +kernel
theorem dX0_castOfLamp_27 : decode cX0_castOfLamp 27 = .ok (.iload 4, 2) := by decide +kernel
theorem dX0_castOfLamp_29 : decode cX0_castOfLamp 29 = .ok (.iload_n 3, 1) := by decide +kernel
theorem dX0_castOfLamp_30 : decode cX0_castOfLamp 30 = .ok (.invokestatic 92, 3) := by decide +kernel
theorem dX0_castOfLamp_33 : decode cX0_castOfLamp 33 = .ok (.istore 4, 2) := by decide +kernel
theorem dX0_castOfLamp_35 : decode cX0_castOfLamp 35 = .ok (.aload_n 0, 1) := by decide +kernel
theorem dX0_castOfLamp_36 : decode cX0_castOfLamp 36 = .ok (.getfield 9, 3) := by decide +kernel
theorem dX0_castOfLamp_39 : decode cX0_castOfLamp 39 = .ok (.iload 4, 2) := by decide +kernel
theorem dX0_castOfLamp_41 : decode cX0_castOfLamp 41 = .ok (.invokevirtual 118, 3) := by decide +kernel
theorem dX0_castOfLamp_44 : decode cX0_castOfLamp 44 = .ok (.iconst 1, 1) := by decide +kernel
theorem dX0_castOfLamp_45 : decode cX0_castOfLamp 45 = .ok (.if_icmp .ne 6, 3) := by decide +kernel
theorem dX0_castOfLamp_48 : decode cX0_castOfLamp 48 = .ok (.goto 36, 3) := by decide +kernel
theorem dX0_castOfLamp_51 : decode cX0_castOfLamp 51 = .ok (.aload_n 1, 1) := by decide +kernel
theorem dX0_castOfLamp_52 : decode cX0_castOfLamp 52 = .ok (.getfield 89, 3) := by decide +kernel
theorem dX0_castOfLamp_55 : decode cX0_castOfLamp 55 = .ok (.iload 4, 2) := by decide +kernel
theorem dX0_castOfLamp_57 : decode cX0_castOfLamp 57 = .ok (.invokestatic 121, 3) := by decide +kernel
theorem dX0_castOfLamp_60 : decode cX0_castOfLamp 60 = .ok (.ifCond .eq 18, 3) := by decide +kernel
theorem dX0_castOfLamp_63 : decode cX0_castOfLamp 63 = .ok (.aload_n 0, 1) := by decide +kernel
theorem dX0_castOfLamp_64 : decode cX0_castOfLamp 64 = .ok (.getfield 26, 3) := by decide +kernel
theorem dX0_castOfLamp_67 : decode cX0_castOfLamp 67 = .ok (.aload_n 0, 1) := by decide +kernel
theorem dX0_castOfLamp_68 : decode cX0_castOfLamp 68 = .ok (.getfield 9, 3) := by decide +kernel
theorem dX0_castOfLamp_71 : decode cX0_castOfLamp 71 = .ok (.iload 4, 2) := by decide +kernel
theorem dX0_castOfLamp_73 : decode cX0_castOfLamp 73 = .ok (.iload_n 3, 1) := by decide +kernel
theorem dX0_castOfLamp_74 : decode cX0_castOfLamp 74 = .ok (.iconst 2, 1) := by decide +kernel
theorem dX0_castOfLamp_75 : decode cX0_castOfLamp 75 = .ok (.invokevirtual 107, 3) := by decide +kernel
theorem dX0_castOfLamp_78 : decode cX0_castOfLamp 78 = .ok (.iinc 5 1, 3) := by decide +kernel
theorem dX0_castOfLamp_81 : decode cX0_castOfLamp 81 = .ok (.goto (-60), 3) := by decide +kernel
theorem dX0_castOfLamp_84 : decode cX0_castOfLamp 84 = .ok (.iinc 3 1, 3) := by decide +kernel
theorem dX0_castOfLamp_87 : decode cX0_castOfLamp 87 = .ok (.goto (-85), 3) := by decide +kernel
theorem dX0_castOfLamp_90 : decode cX0_castOfLamp 90 = .ok (.return_, 1) := by decide +kernel
theorem dX0_felonsGo_0 : decode cX0_felonsGo 0 = .ok (.iconst 0, 1) := by decide +kernel
theorem dX0_felonsGo_1 : decode cX0_felonsGo 1 = .ok (.istore 4, 2) := by decide +kernel
theorem dX0_felonsGo_3 : decode cX0_felonsGo 3 = .ok (.iload 4, 2) := by decide +kernel
theorem dX0_felonsGo_5 : decode cX0_felonsGo 5 = .ok (.iload_n 2, 1) := by decide +kernel
theorem dX0_felonsGo_6 : decode cX0_felonsGo 6 = .ok (.if_icmp .ge 203, 3) := by decide +kernel
theorem dX0_felonsGo_9 : decode cX0_felonsGo 9 = .ok (.iload 4, 2) := by decide +kernel
theorem dX0_felonsGo_11 : decode cX0_felonsGo 11 = .ok (.bipush 10, 2) := by decide +kernel
theorem dX0_felonsGo_13 : decode cX0_felonsGo 13 = .ok (.if_icmp .ge 196, 3) := by decide +kernel
theorem dX0_felonsGo_16 : decode cX0_felonsGo 16 = .ok (.aload_n 0, 1) := by decide +kernel
theorem dX0_felonsGo_17 : decode cX0_felonsGo 17 = .ok (.getfield 30, 3) := by decide +kernel
theorem dX0_felonsGo_20 : decode cX0_felonsGo 20 = .ok (.iload 4, 2) := by decide +kernel
theorem dX0_felonsGo_22 : decode cX0_felonsGo 22 = .ok (.iaload, 1) := by decide +kernel
theorem dX0_felonsGo_23 : decode cX0_felonsGo 23 = .ok (.istore 5, 2) := by decide +kernel
theorem dX0_felonsGo_25 : decode cX0_felonsGo 25 = .ok (.aload_n 1, 1) := by decide +kernel
theorem dX0_felonsGo_26 : decode cX0_felonsGo 26 = .ok (.iload 5, 2) := by decide +kernel
theorem dX0_felonsGo_28 : decode cX0_felonsGo 28 = .ok (.invokevirtual 134, 3) := by decide +kernel
theorem dX0_felonsGo_31 : decode cX0_felonsGo 31 = .ok (.ifCond .ne 6, 3) := by decide +kernel
theorem dX0_felonsGo_34 : decode cX0_felonsGo 34 = .ok (.goto 169, 3) := by decide +kernel
theorem dX0_felonsGo_37 : decode cX0_felonsGo 37 = .ok (.aload_n 0, 1) := by decide +kernel
theorem dX0_felonsGo_38 : decode cX0_felonsGo 38 = .ok (.getfield 26, 3) := by decide +kernel
theorem dX0_felonsGo_41 : decode cX0_felonsGo 41 = .ok (.getfield 125, 3) := by decide +kernel
theorem dX0_felonsGo_44 : decode cX0_felonsGo 44 = .ok (.ifCond .le 20, 3) := by decide +kernel
theorem dX0_felonsGo_47 : decode cX0_felonsGo 47 = .ok (.aload_n 0, 1) := by decide +kernel
theorem dX0_felonsGo_48 : decode cX0_felonsGo 48 = .ok (.aload_n 1, 1) := by decide +kernel
theorem dX0_felonsGo_49 : decode cX0_felonsGo 49 = .ok (.iload 5, 2) := by decide +kernel
theorem dX0_felonsGo_51 : decode cX0_felonsGo 51 = .ok (.aload_n 0, 1) := by decide +kernel
theorem dX0_felonsGo_52 : decode cX0_felonsGo 52 = .ok (.aload_n 1, 1) := by decide +kernel
theorem dX0_felonsGo_53 : decode cX0_felonsGo 53 = .ok (.iload 5, 2) := by decide +kernel
theorem dX0_felonsGo_55 : decode cX0_felonsGo 55 = .ok (.invokevirtual 155, 3) := by decide +kernel
theorem dX0_felonsGo_58 : decode cX0_felonsGo 58 = .ok (.invokevirtual 158, 3) := by decide +kernel
theorem dX0_felonsGo_61 : decode cX0_felonsGo 61 = .ok (.goto 4, 3) := by decide +kernel
theorem dX0_felonsGo_64 : decode cX0_felonsGo 64 = .ok (.iconst (-1), 1) := by decide +kernel
theorem dX0_felonsGo_65 : decode cX0_felonsGo 65 = .ok (.istore 6, 2) := by decide +kernel
theorem dX0_felonsGo_67 : decode cX0_felonsGo 67 = .ok (.iload 6, 2) := by decide +kernel
theorem dX0_felonsGo_69 : decode cX0_felonsGo 69 = .ok (.invokestatic 162, 3) := by decide +kernel
theorem dX0_felonsGo_72 : decode cX0_felonsGo 72 = .ok (.ifCond .ne 38, 3) := by decide +kernel
theorem dX0_felonsGo_75 : decode cX0_felonsGo 75 = .ok (.aload_n 1, 1) := by decide +kernel
theorem dX0_felonsGo_76 : decode cX0_felonsGo 76 = .ok (.dup, 1) := by decide +kernel
theorem dX0_felonsGo_77 : decode cX0_felonsGo 77 = .ok (.getfield 165, 3) := by decide +kernel
theorem dX0_felonsGo_80 : decode cX0_felonsGo 80 = .ok (.iconst 1, 1) := by decide +kernel
theorem dX0_felonsGo_81 : decode cX0_felonsGo 81 = .ok (.iadd, 1) := by decide +kernel
theorem dX0_felonsGo_82 : decode cX0_felonsGo 82 = .ok (.putfield 165, 3) := by decide +kernel
theorem dX0_felonsGo_85 : decode cX0_felonsGo 85 = .ok (.aload_n 1, 1) := by decide +kernel
theorem dX0_felonsGo_86 : decode cX0_felonsGo 86 = .ok (.getfield 143, 3) := by decide +kernel
theorem dX0_felonsGo_89 : decode cX0_felonsGo 89 = .ok (.iload 5, 2) := by decide +kernel
theorem dX0_felonsGo_91 : decode cX0_felonsGo 91 = .ok (.aload_n 1, 1) := by decide +kernel
theorem dX0_felonsGo_92 : decode cX0_felonsGo 92 = .ok (.getfield 143, 3) := by decide +kernel
theorem dX0_felonsGo_95 : decode cX0_felonsGo 95 = .ok (.iload 5, 2) := by decide +kernel
theorem dX0_felonsGo_97 : decode cX0_felonsGo 97 = .ok (.iaload, 1) := by decide +kernel
theorem dX0_felonsGo_98 : decode cX0_felonsGo 98 = .ok (.iconst 1, 1) := by decide +kernel
theorem dX0_felonsGo_99 : decode cX0_felonsGo 99 = .ok (.iadd, 1) := by decide +kernel
theorem dX0_felonsGo_100 : decode cX0_felonsGo 100 = .ok (.sipush 999, 3) := by decide +kernel
theorem dX0_felonsGo_103 : decode cX0_felonsGo 103 = .ok (.invokestatic 168, 3) := by decide +kernel
theorem dX0_felonsGo_106 : decode cX0_felonsGo 106 = .ok (.iastore, 1) := by decide +kernel
theorem dX0_felonsGo_107 : decode cX0_felonsGo 107 = .ok (.goto 96, 3) := by decide +kernel
theorem dX0_felonsGo_110 : decode cX0_felonsGo 110 = .ok (.aload_n 1, 1) := by decide +kernel
theorem dX0_felonsGo_111 : decode cX0_felonsGo 111 = .ok (.getfield 137, 3) := by decide +kernel
theorem dX0_felonsGo_114 : decode cX0_felonsGo 114 = .ok (.iload 5, 2) := by decide +kernel
theorem dX0_felonsGo_116 : decode cX0_felonsGo 116 = .ok (.iload 6, 2) := by decide +kernel
theorem dX0_felonsGo_118 : decode cX0_felonsGo 118 = .ok (.iastore, 1) := by decide +kernel
theorem dX0_felonsGo_119 : decode cX0_felonsGo 119 = .ok (.aload_n 0, 1) := by decide +kernel
theorem dX0_felonsGo_120 : decode cX0_felonsGo 120 = .ok (.getfield 26, 3) := by decide +kernel
theorem dX0_felonsGo_123 : decode cX0_felonsGo 123 = .ok (.getfield 173, 3) := by decide +kernel
theorem dX0_felonsGo_126 : decode cX0_felonsGo 126 = .ok (.iload 6, 2) := by decide +kernel
theorem dX0_felonsGo_128 : decode cX0_felonsGo 128 = .ok (.iconst 1, 1) := by decide +kernel
theorem dX0_felonsGo_129 : decode cX0_felonsGo 129 = .ok (.bastore, 1) := by decide +kernel
theorem dX0_felonsGo_130 : decode cX0_felonsGo 130 = .ok (.aload_n 0, 1) := by decide +kernel
theorem dX0_felonsGo_131 : decode cX0_felonsGo 131 = .ok (.getfield 26, 3) := by decide +kernel
theorem dX0_felonsGo_134 : decode cX0_felonsGo 134 = .ok (.iload 6, 2) := by decide +kernel
theorem dX0_felonsGo_136 : decode cX0_felonsGo 136 = .ok (.invokevirtual 131, 3) := by decide +kernel
theorem dX0_felonsGo_139 : decode cX0_felonsGo 139 = .ok (.istore 7, 2) := by decide +kernel
theorem dX0_felonsGo_141 : decode cX0_felonsGo 141 = .ok (.iload_n 3, 1) := by decide +kernel
theorem dX0_felonsGo_142 : decode cX0_felonsGo 142 = .ok (.ifCond .eq 19, 3) := by decide +kernel
theorem dX0_felonsGo_145 : decode cX0_felonsGo 145 = .ok (.aload_n 1, 1) := by decide +kernel
theorem dX0_felonsGo_146 : decode cX0_felonsGo 146 = .ok (.getfield 42, 3) := by decide +kernel
theorem dX0_felonsGo_149 : decode cX0_felonsGo 149 = .ok (.iconst 3, 1) := by decide +kernel
theorem dX0_felonsGo_150 : decode cX0_felonsGo 150 = .ok (.irem, 1) := by decide +kernel
theorem dX0_felonsGo_151 : decode cX0_felonsGo 151 = .ok (.ifCond .ne 7, 3) := by decide +kernel
theorem dX0_felonsGo_154 : decode cX0_felonsGo 154 = .ok (.iconst 1, 1) := by decide +kernel
theorem dX0_felonsGo_155 : decode cX0_felonsGo 155 = .ok (.goto 4, 3) := by decide +kernel
theorem dX0_felonsGo_158 : decode cX0_felonsGo 158 = .ok (.iconst 0, 1) := by decide +kernel
theorem dX0_felonsGo_159 : decode cX0_felonsGo 159 = .ok (.istore 7, 2) := by decide +kernel
theorem dX0_felonsGo_161 : decode cX0_felonsGo 161 = .ok (.aload_n 1, 1) := by decide +kernel
theorem dX0_felonsGo_162 : decode cX0_felonsGo 162 = .ok (.getfield 140, 3) := by decide +kernel
theorem dX0_felonsGo_165 : decode cX0_felonsGo 165 = .ok (.iload 5, 2) := by decide +kernel
theorem dX0_felonsGo_167 : decode cX0_felonsGo 167 = .ok (.aload_n 1, 1) := by decide +kernel
theorem dX0_felonsGo_168 : decode cX0_felonsGo 168 = .ok (.getfield 140, 3) := by decide +kernel
theorem dX0_felonsGo_171 : decode cX0_felonsGo 171 = .ok (.iload 5, 2) := by decide +kernel
theorem dX0_felonsGo_173 : decode cX0_felonsGo 173 = .ok (.iaload, 1) := by decide +kernel
theorem dX0_felonsGo_174 : decode cX0_felonsGo 174 = .ok (.iload 7, 2) := by decide +kernel
theorem dX0_felonsGo_176 : decode cX0_felonsGo 176 = .ok (.isub, 1) := by decide +kernel
theorem dX0_felonsGo_177 : decode cX0_felonsGo 177 = .ok (.iconst 0, 1) := by decide +kernel
theorem dX0_felonsGo_178 : decode cX0_felonsGo 178 = .ok (.invokestatic 177, 3) := by decide +kernel
theorem dX0_felonsGo_181 : decode cX0_felonsGo 181 = .ok (.iastore, 1) := by decide +kernel
theorem dX0_felonsGo_182 : decode cX0_felonsGo 182 = .ok (.aload_n 0, 1) := by decide +kernel
theorem dX0_felonsGo_183 : decode cX0_felonsGo 183 = .ok (.getfield 9, 3) := by decide +kernel
theorem dX0_felonsGo_186 : decode cX0_felonsGo 186 = .ok (.iload 6, 2) := by decide +kernel
theorem dX0_felonsGo_188 : decode cX0_felonsGo 188 = .ok (.invokevirtual 118, 3) := by decide +kernel
theorem dX0_felonsGo_191 : decode cX0_felonsGo 191 = .ok (.iconst 3, 1) := by decide +kernel
theorem dX0_felonsGo_192 : decode cX0_felonsGo 192 = .ok (.if_icmp .ne 11, 3) := by decide +kernel
theorem dX0_felonsGo_195 : decode cX0_felonsGo 195 = .ok (.aload_n 1, 1) := by decide +kernel
theorem dX0_felonsGo_196 : decode cX0_felonsGo 196 = .ok (.getfield 180, 3) := by decide +kernel
theorem dX0_felonsGo_199 : decode cX0_felonsGo 199 = .ok (.iload 5, 2) := by decide +kernel
theorem dX0_felonsGo_201 : decode cX0_felonsGo 201 = .ok (.iconst 1, 1) := by decide +kernel
theorem dX0_felonsGo_202 : decode cX0_felonsGo 202 = .ok (.bastore, 1) := by decide +kernel
theorem dX0_felonsGo_203 : decode cX0_felonsGo 203 = .ok (.iinc 4 1, 3) := by decide +kernel
theorem dX0_felonsGo_206 : decode cX0_felonsGo 206 = .ok (.goto (-203), 3) := by decide +kernel
theorem dX0_felonsGo_209 : decode cX0_felonsGo 209 = .ok (.return_, 1) := by decide +kernel
theorem dX0_goOn_0 : decode cX0_goOn 0 = .ok (.aload_n 1, 1) := by decide +kernel
theorem dX0_goOn_1 : decode cX0_goOn 1 = .ok (.invokevirtual 36, 3) := by decide +kernel
theorem dX0_goOn_4 : decode cX0_goOn 4 = .ok (.istore 4, 2) := by decide +kernel
theorem dX0_goOn_6 : decode cX0_goOn 6 = .ok (.iconst 0, 1) := by decide +kernel
theorem dX0_goOn_7 : decode cX0_goOn 7 = .ok (.istore 5, 2) := by decide +kernel
theorem dX0_goOn_9 : decode cX0_goOn 9 = .ok (.iload 5, 2) := by decide +kernel
theorem dX0_goOn_11 : decode cX0_goOn 11 = .ok (.iload_n 2, 1) := by decide +kernel
theorem dX0_goOn_12 : decode cX0_goOn 12 = .ok (.if_icmp .ge 128, 3) := by decide +kernel
theorem dX0_goOn_15 : decode cX0_goOn 15 = .ok (.aload_n 1, 1) := by decide +kernel
theorem dX0_goOn_16 : decode cX0_goOn 16 = .ok (.getfield 42, 3) := by decide +kernel
theorem dX0_goOn_19 : decode cX0_goOn 19 = .ok (.sipush 9999, 3) := by decide +kernel
theorem dX0_goOn_22 : decode cX0_goOn 22 = .ok (.if_icmp .ge 118, 3) := by decide +kernel
theorem dX0_goOn_25 : decode cX0_goOn 25 = .ok (.aload_n 0, 1) := by decide +kernel
theorem dX0_goOn_26 : decode cX0_goOn 26 = .ok (.aload_n 1, 1) := by decide +kernel
theorem dX0_goOn_27 : decode cX0_goOn 27 = .ok (.invokevirtual 46, 3) := by decide +kernel
theorem dX0_goOn_30 : decode cX0_goOn 30 = .ok (.aload_n 0, 1) := by decide +kernel
theorem dX0_goOn_31 : decode cX0_goOn 31 = .ok (.getfield 15, 3) := by decide +kernel
theorem dX0_goOn_34 : decode cX0_goOn 34 = .ok (.aload_n 1, 1) := by decide +kernel
theorem dX0_goOn_35 : decode cX0_goOn 35 = .ok (.getfield 42, 3) := by decide +kernel
theorem dX0_goOn_38 : decode cX0_goOn 38 = .ok (.invokevirtual 50, 3) := by decide +kernel
theorem dX0_goOn_41 : decode cX0_goOn 41 = .ok (.aload_n 1, 1) := by decide +kernel
theorem dX0_goOn_42 : decode cX0_goOn 42 = .ok (.invokevirtual 56, 3) := by decide +kernel
theorem dX0_goOn_45 : decode cX0_goOn 45 = .ok (.aload_n 0, 1) := by decide +kernel
theorem dX0_goOn_46 : decode cX0_goOn 46 = .ok (.getfield 15, 3) := by decide +kernel
theorem dX0_goOn_49 : decode cX0_goOn 49 = .ok (.bipush 99, 2) := by decide +kernel
theorem dX0_goOn_51 : decode cX0_goOn 51 = .ok (.bipush 10, 2) := by decide +kernel
theorem dX0_goOn_53 : decode cX0_goOn 53 = .ok (.invokevirtual 59, 3) := by decide +kernel
theorem dX0_goOn_56 : decode cX0_goOn 56 = .ok (.if_icmp .ge 7, 3) := by decide +kernel
theorem dX0_goOn_59 : decode cX0_goOn 59 = .ok (.iconst 1, 1) := by decide +kernel
theorem dX0_goOn_60 : decode cX0_goOn 60 = .ok (.goto 4, 3) := by decide +kernel
theorem dX0_goOn_63 : decode cX0_goOn 63 = .ok (.iconst 0, 1) := by decide +kernel
theorem dX0_goOn_64 : decode cX0_goOn 64 = .ok (.istore 6, 2) := by decide +kernel
theorem dX0_goOn_66 : decode cX0_goOn 66 = .ok (.iload 6, 2) := by decide +kernel
theorem dX0_goOn_68 : decode cX0_goOn 68 = .ok (.ifCond .eq 13, 3) := by decide +kernel
theorem dX0_goOn_71 : decode cX0_goOn 71 = .ok (.aload_n 1, 1) := by decide +kernel
theorem dX0_goOn_72 : decode cX0_goOn 72 = .ok (.dup, 1) := by decide +kernel
theorem dX0_goOn_73 : decode cX0_goOn 73 = .ok (.getfield 63, 3) := by decide +kernel
theorem dX0_goOn_76 : decode cX0_goOn 76 = .ok (.iconst 1, 1) := by decide +kernel
theorem dX0_goOn_77 : decode cX0_goOn 77 = .ok (.iadd, 1) := by decide +kernel
theorem dX0_goOn_78 : decode cX0_goOn 78 = .ok (.putfield 63, 3) := by decide +kernel
theorem dX0_goOn_81 : decode cX0_goOn 81 = .ok (.aload_n 0, 1) := by decide +kernel
theorem dX0_goOn_82 : decode cX0_goOn 82 = .ok (.getfield 15, 3) := by decide +kernel
theorem dX0_goOn_85 : decode cX0_goOn 85 = .ok (.aload_n 1, 1) := by decide +kernel
theorem dX0_goOn_86 : decode cX0_goOn 86 = .ok (.getfield 42, 3) := by decide +kernel
theorem dX0_goOn_89 : decode cX0_goOn 89 = .ok (.invokevirtual 66, 3) := by decide +kernel
theorem dX0_goOn_92 : decode cX0_goOn 92 = .ok (.istore 7, 2) := by decide +kernel
theorem dX0_goOn_94 : decode cX0_goOn 94 = .ok (.aload_n 0, 1) := by decide +kernel
theorem dX0_goOn_95 : decode cX0_goOn 95 = .ok (.aload_n 1, 1) := by decide +kernel
theorem dX0_goOn_96 : decode cX0_goOn 96 = .ok (.iload 6, 2) := by decide +kernel
theorem dX0_goOn_98 : decode cX0_goOn 98 = .ok (.ifCond .ne 7, 3) := by decide +kernel
theorem dX0_goOn_101 : decode cX0_goOn 101 = .ok (.iconst 1, 1) := by decide +kernel
theorem dX0_goOn_102 : decode cX0_goOn 102 = .ok (.goto 4, 3) := by decide +kernel
theorem dX0_goOn_105 : decode cX0_goOn 105 = .ok (.iconst 0, 1) := by decide +kernel
theorem dX0_goOn_106 : decode cX0_goOn 106 = .ok (.iload 7, 2) := by decide +kernel
theorem dX0_goOn_108 : decode cX0_goOn 108 = .ok (.invokevirtual 70, 3) := by decide +kernel
theorem dX0_goOn_111 : decode cX0_goOn 111 = .ok (.aload_n 0, 1) := by decide +kernel
theorem dX0_goOn_112 : decode cX0_goOn 112 = .ok (.aload_n 1, 1) := by decide +kernel
theorem dX0_goOn_113 : decode cX0_goOn 113 = .ok (.aload_n 0, 1) := by decide +kernel
theorem dX0_goOn_114 : decode cX0_goOn 114 = .ok (.aload_n 1, 1) := by decide +kernel
theorem dX0_goOn_115 : decode cX0_goOn 115 = .ok (.iload_n 3, 1) := by decide +kernel
theorem dX0_goOn_116 : decode cX0_goOn 116 = .ok (.invokevirtual 74, 3) := by decide +kernel
theorem dX0_goOn_119 : decode cX0_goOn 119 = .ok (.iload 7, 2) := by decide +kernel
theorem dX0_goOn_121 : decode cX0_goOn 121 = .ok (.invokevirtual 78, 3) := by decide +kernel
theorem dX0_goOn_124 : decode cX0_goOn 124 = .ok (.aload_n 1, 1) := by decide +kernel
theorem dX0_goOn_125 : decode cX0_goOn 125 = .ok (.dup, 1) := by decide +kernel
theorem dX0_goOn_126 : decode cX0_goOn 126 = .ok (.getfield 42, 3) := by decide +kernel
theorem dX0_goOn_129 : decode cX0_goOn 129 = .ok (.iconst 1, 1) := by decide +kernel
theorem dX0_goOn_130 : decode cX0_goOn 130 = .ok (.iadd, 1) := by decide +kernel
theorem dX0_goOn_131 : decode cX0_goOn 131 = .ok (.putfield 42, 3) := by decide +kernel
theorem dX0_goOn_134 : decode cX0_goOn 134 = .ok (.iinc 5 1, 3) := by decide +kernel
theorem dX0_goOn_137 : decode cX0_goOn 137 = .ok (.goto (-128), 3) := by decide +kernel
theorem dX0_goOn_140 : decode cX0_goOn 140 = .ok (.iload 4, 2) := by decide +kernel
theorem dX0_goOn_142 : decode cX0_goOn 142 = .ok (.aload_n 1, 1) := by decide +kernel
theorem dX0_goOn_143 : decode cX0_goOn 143 = .ok (.invokevirtual 36, 3) := by decide +kernel
theorem dX0_goOn_146 : decode cX0_goOn 146 = .ok (.isub, 1) := by decide +kernel
theorem dX0_goOn_147 : decode cX0_goOn 147 = .ok (.ireturn, 1) := by decide +kernel
theorem dX0_judgesStep_0 : decode cX0_judgesStep 0 = .ok (.iconst 0, 1) := by decide +kernel
theorem dX0_judgesStep_1 : decode cX0_judgesStep 1 = .ok (.istore_n 2, 1) := by decide +kernel
theorem dX0_judgesStep_2 : decode cX0_judgesStep 2 = .ok (.iload_n 2, 1) := by decide +kernel
theorem dX0_judgesStep_3 : decode cX0_judgesStep 3 = .ok (.iconst 2, 1) := by decide +kernel
theorem dX0_judgesStep_4 : decode cX0_judgesStep 4 = .ok (.if_icmp .ge 81, 3) := by decide +kernel
theorem dX0_judgesStep_7 : decode cX0_judgesStep 7 = .ok (.aload_n 1, 1) := by decide +kernel
theorem dX0_judgesStep_8 : decode cX0_judgesStep 8 = .ok (.iload_n 2, 1) := by decide +kernel
theorem dX0_judgesStep_9 : decode cX0_judgesStep 9 = .ok (.invokevirtual 82, 3) := by decide +kernel
theorem dX0_judgesStep_12 : decode cX0_judgesStep 12 = .ok (.ifCond .ne 6, 3) := by decide +kernel
theorem dX0_judgesStep_15 : decode cX0_judgesStep 15 = .ok (.goto 64, 3) := by decide +kernel
theorem dX0_judgesStep_18 : decode cX0_judgesStep 18 = .ok (.aload_n 1, 1) := by decide +kernel
theorem dX0_judgesStep_19 : decode cX0_judgesStep 19 = .ok (.iload_n 2, 1) := by decide +kernel
theorem dX0_judgesStep_20 : decode cX0_judgesStep 20 = .ok (.invokevirtual 85, 3) := by decide +kernel
theorem dX0_judgesStep_23 : decode cX0_judgesStep 23 = .ok (.istore_n 3, 1) := by decide +kernel
theorem dX0_judgesStep_24 : decode cX0_judgesStep 24 = .ok (.iload_n 3, 1) := by decide +kernel
theorem dX0_judgesStep_25 : decode cX0_judgesStep 25 = .ok (.iconst 4, 1) := by decide +kernel
theorem dX0_judgesStep_26 : decode cX0_judgesStep 26 = .ok (.if_icmp .ne 6, 3) := by decide +kernel
theorem dX0_judgesStep_29 : decode cX0_judgesStep 29 = .ok (.goto 50, 3) := by decide +kernel
theorem dX0_judgesStep_32 : decode cX0_judgesStep 32 = .ok (.aload_n 1, 1) := by decide +kernel
theorem dX0_judgesStep_33 : decode cX0_judgesStep 33 = .ok (.getfield 89, 3) := by decide +kernel
theorem dX0_judgesStep_36 : decode cX0_judgesStep 36 = .ok (.iload_n 2, 1) := by decide +kernel
theorem dX0_judgesStep_37 : decode cX0_judgesStep 37 = .ok (.iaload, 1) := by decide +kernel
theorem dX0_judgesStep_38 : decode cX0_judgesStep 38 = .ok (.iconst 2, 1) := by decide +kernel
theorem dX0_judgesStep_39 : decode cX0_judgesStep 39 = .ok (.iload_n 3, 1) := by decide +kernel
theorem dX0_judgesStep_40 : decode cX0_judgesStep 40 = .ok (.imul, 1) := by decide +kernel
theorem dX0_judgesStep_41 : decode cX0_judgesStep 41 = .ok (.invokestatic 92, 3) := by decide +kernel
theorem dX0_judgesStep_44 : decode cX0_judgesStep 44 = .ok (.istore 4, 2) := by decide +kernel
theorem dX0_judgesStep_46 : decode cX0_judgesStep 46 = .ok (.aload_n 0, 1) := by decide +kernel
theorem dX0_judgesStep_47 : decode cX0_judgesStep 47 = .ok (.getfield 9, 3) := by decide +kernel
theorem dX0_judgesStep_50 : decode cX0_judgesStep 50 = .ok (.iload 4, 2) := by decide +kernel
theorem dX0_judgesStep_52 : decode cX0_judgesStep 52 = .ok (.invokevirtual 97, 3) := by decide +kernel
theorem dX0_judgesStep_55 : decode cX0_judgesStep 55 = .ok (.ifCond .eq 24, 3) := by decide +kernel
theorem dX0_judgesStep_58 : decode cX0_judgesStep 58 = .ok (.aload_n 1, 1) := by decide +kernel
theorem dX0_judgesStep_59 : decode cX0_judgesStep 59 = .ok (.getfield 89, 3) := by decide +kernel
theorem dX0_judgesStep_62 : decode cX0_judgesStep 62 = .ok (.iconst 1, 1) := by decide +kernel
theorem dX0_judgesStep_63 : decode cX0_judgesStep 63 = .ok (.iload_n 2, 1) := by decide +kernel
theorem dX0_judgesStep_64 : decode cX0_judgesStep 64 = .ok (.isub, 1) := by decide +kernel
theorem dX0_judgesStep_65 : decode cX0_judgesStep 65 = .ok (.iaload, 1) := by decide +kernel
theorem dX0_judgesStep_66 : decode cX0_judgesStep 66 = .ok (.iload 4, 2) := by decide +kernel
theorem dX0_judgesStep_68 : decode cX0_judgesStep 68 = .ok (.if_icmp .eq 11, 3) := by decide +kernel
theorem dX0_judgesStep_71 : decode cX0_judgesStep 71 = .ok (.aload_n 1, 1) := by decide +kernel
theorem dX0_judgesStep_72 : decode cX0_judgesStep 72 = .ok (.getfield 89, 3) := by decide +kernel
theorem dX0_judgesStep_75 : decode cX0_judgesStep 75 = .ok (.iload_n 2, 1) := by decide +kernel
theorem dX0_judgesStep_76 : decode cX0_judgesStep 76 = .ok (.iload 4, 2) := by decide +kernel
theorem dX0_judgesStep_78 : decode cX0_judgesStep 78 = .ok (.iastore, 1) := by decide +kernel
theorem dX0_judgesStep_79 : decode cX0_judgesStep 79 = .ok (.iinc 2 1, 3) := by decide +kernel
theorem dX0_judgesStep_82 : decode cX0_judgesStep 82 = .ok (.goto (-80), 3) := by decide +kernel
theorem dX0_judgesStep_85 : decode cX0_judgesStep 85 = .ok (.return_, 1) := by decide +kernel
theorem dX0_lineUp_0 : decode cX0_lineUp 0 = .ok (.iconst 0, 1) := by decide +kernel
theorem dX0_lineUp_1 : decode cX0_lineUp 1 = .ok (.istore_n 3, 1) := by decide +kernel
theorem dX0_lineUp_2 : decode cX0_lineUp 2 = .ok (.iconst 0, 1) := by decide +kernel
theorem dX0_lineUp_3 : decode cX0_lineUp 3 = .ok (.istore 4, 2) := by decide +kernel
theorem dX0_lineUp_5 : decode cX0_lineUp 5 = .ok (.iload 4, 2) := by decide +kernel
theorem dX0_lineUp_7 : decode cX0_lineUp 7 = .ok (.bipush 10, 2) := by decide +kernel
theorem dX0_lineUp_9 : decode cX0_lineUp 9 = .ok (.if_icmp .ge 135, 3) := by decide +kernel
theorem dX0_lineUp_12 : decode cX0_lineUp 12 = .ok (.aload_n 1, 1) := by decide +kernel
theorem dX0_lineUp_13 : decode cX0_lineUp 13 = .ok (.iload 4, 2) := by decide +kernel
theorem dX0_lineUp_15 : decode cX0_lineUp 15 = .ok (.invokevirtual 152, 3) := by decide +kernel
theorem dX0_lineUp_18 : decode cX0_lineUp 18 = .ok (.ifCond .ne 6, 3) := by decide +kernel
theorem dX0_lineUp_21 : decode cX0_lineUp 21 = .ok (.goto 117, 3) := by decide +kernel
theorem dX0_lineUp_24 : decode cX0_lineUp 24 = .ok (.aload_n 0, 1) := by decide +kernel
theorem dX0_lineUp_25 : decode cX0_lineUp 25 = .ok (.aload_n 1, 1) := by decide +kernel
theorem dX0_lineUp_26 : decode cX0_lineUp 26 = .ok (.iload 4, 2) := by decide +kernel
theorem dX0_lineUp_28 : decode cX0_lineUp 28 = .ok (.invokevirtual 150, 3) := by decide +kernel
theorem dX0_lineUp_31 : decode cX0_lineUp 31 = .ok (.iload 4, 2) := by decide +kernel
theorem dX0_lineUp_33 : decode cX0_lineUp 33 = .ok (.iload_n 2, 1) := by decide +kernel
theorem dX0_lineUp_34 : decode cX0_lineUp 34 = .ok (.if_icmp .ne 9, 3) := by decide +kernel
theorem dX0_lineUp_37 : decode cX0_lineUp 37 = .ok (.sipush 1000, 3) := by decide +kernel
theorem dX0_lineUp_40 : decode cX0_lineUp 40 = .ok (.goto 15, 3) := by decide +kernel
theorem dX0_lineUp_43 : decode cX0_lineUp 43 = .ok (.aload_n 0, 1) := by decide +kernel
theorem dX0_lineUp_44 : decode cX0_lineUp 44 = .ok (.getfield 15, 3) := by decide +kernel
theorem dX0_lineUp_47 : decode cX0_lineUp 47 = .ok (.bipush 111, 2) := by decide +kernel
theorem dX0_lineUp_49 : decode cX0_lineUp 49 = .ok (.sipush 999, 3) := by decide +kernel
theorem dX0_lineUp_52 : decode cX0_lineUp 52 = .ok (.invokevirtual 59, 3) := by decide +kernel
theorem dX0_lineUp_55 : decode cX0_lineUp 55 = .ok (.istore 5, 2) := by decide +kernel
theorem dX0_lineUp_57 : decode cX0_lineUp 57 = .ok (.iload_n 3, 1) := by decide +kernel
theorem dX0_lineUp_58 : decode cX0_lineUp 58 = .ok (.istore 6, 2) := by decide +kernel
theorem dX0_lineUp_60 : decode cX0_lineUp 60 = .ok (.iload 6, 2) := by decide +kernel
theorem dX0_lineUp_62 : decode cX0_lineUp 62 = .ok (.ifCond .le 55, 3) := by decide +kernel
theorem dX0_lineUp_65 : decode cX0_lineUp 65 = .ok (.aload_n 0, 1) := by decide +kernel
theorem dX0_lineUp_66 : decode cX0_lineUp 66 = .ok (.getfield 33, 3) := by decide +kernel
theorem dX0_lineUp_69 : decode cX0_lineUp 69 = .ok (.iload 6, 2) := by decide +kernel
theorem dX0_lineUp_71 : decode cX0_lineUp 71 = .ok (.iconst 1, 1) := by decide +kernel
theorem dX0_lineUp_72 : decode cX0_lineUp 72 = .ok (.isub, 1) := by decide +kernel
theorem dX0_lineUp_73 : decode cX0_lineUp 73 = .ok (.iaload, 1) := by decide +kernel
theorem dX0_lineUp_74 : decode cX0_lineUp 74 = .ok (.iload 5, 2) := by decide +kernel
theorem dX0_lineUp_76 : decode cX0_lineUp 76 = .ok (.if_icmp .ge 41, 3) := by decide +kernel
theorem dX0_lineUp_79 : decode cX0_lineUp 79 = .ok (.aload_n 0, 1) := by decide +kernel
theorem dX0_lineUp_80 : decode cX0_lineUp 80 = .ok (.getfield 30, 3) := by decide +kernel
theorem dX0_lineUp_83 : decode cX0_lineUp 83 = .ok (.iload 6, 2) := by decide +kernel
theorem dX0_lineUp_85 : decode cX0_lineUp 85 = .ok (.aload_n 0, 1) := by decide +kernel
theorem dX0_lineUp_86 : decode cX0_lineUp 86 = .ok (.getfield 30, 3) := by decide +kernel
theorem dX0_lineUp_89 : decode cX0_lineUp 89 = .ok (.iload 6, 2) := by decide +kernel
theorem dX0_lineUp_91 : decode cX0_lineUp 91 = .ok (.iconst 1, 1) := by decide +kernel
theorem dX0_lineUp_92 : decode cX0_lineUp 92 = .ok (.isub, 1) := by decide +kernel
theorem dX0_lineUp_93 : decode cX0_lineUp 93 = .ok (.iaload, 1) := by decide +kernel
theorem dX0_lineUp_94 : decode cX0_lineUp 94 = .ok (.iastore, 1) := by decide +kernel
theorem dX0_lineUp_95 : decode cX0_lineUp 95 = .ok (.aload_n 0, 1) := by decide +kernel
theorem dX0_lineUp_96 : decode cX0_lineUp 96 = .ok (.getfield 33, 3) := by decide +kernel
theorem dX0_lineUp_99 : decode cX0_lineUp 99 = .ok (.iload 6, 2) := by decide +kernel
theorem dX0_lineUp_101 : decode cX0_lineUp 101 = .ok (.aload_n 0, 1) := by decide +kernel
theorem dX0_lineUp_102 : decode cX0_lineUp 102 = .ok (.getfield 33, 3) := by decide +kernel
theorem dX0_lineUp_105 : decode cX0_lineUp 105 = .ok (.iload 6, 2) := by decide +kernel
theorem dX0_lineUp_107 : decode cX0_lineUp 107 = .ok (.iconst 1, 1) := by decide +kernel
theorem dX0_lineUp_108 : decode cX0_lineUp 108 = .ok (.isub, 1) := by decide +kernel
theorem dX0_lineUp_109 : decode cX0_lineUp 109 = .ok (.iaload, 1) := by decide +kernel
theorem dX0_lineUp_110 : decode cX0_lineUp 110 = .ok (.iastore, 1) := by decide +kernel
theorem dX0_lineUp_111 : decode cX0_lineUp 111 = .ok (.iinc 6 (-1), 3) := by decide +kernel
theorem dX0_lineUp_114 : decode cX0_lineUp 114 = .ok (.goto (-54), 3) := by decide +kernel
theorem dX0_lineUp_117 : decode cX0_lineUp 117 = .ok (.aload_n 0, 1) := by decide +kernel
theorem dX0_lineUp_118 : decode cX0_lineUp 118 = .ok (.getfield 30, 3) := by decide +kernel
theorem dX0_lineUp_121 : decode cX0_lineUp 121 = .ok (.iload 6, 2) := by decide +kernel
theorem dX0_lineUp_123 : decode cX0_lineUp 123 = .ok (.iload 4, 2) := by decide +kernel
theorem dX0_lineUp_125 : decode cX0_lineUp 125 = .ok (.iastore, 1) := by decide +kernel
theorem dX0_lineUp_126 : decode cX0_lineUp 126 = .ok (.aload_n 0, 1) := by decide +kernel
theorem dX0_lineUp_127 : decode cX0_lineUp 127 = .ok (.getfield 33, 3) := by decide +kernel
theorem dX0_lineUp_130 : decode cX0_lineUp 130 = .ok (.iload 6, 2) := by decide +kernel
theorem dX0_lineUp_132 : decode cX0_lineUp 132 = .ok (.iload 5, 2) := by decide +kernel
theorem dX0_lineUp_134 : decode cX0_lineUp 134 = .ok (.iastore, 1) := by decide +kernel
theorem dX0_lineUp_135 : decode cX0_lineUp 135 = .ok (.iinc 3 1, 3) := by decide +kernel
theorem dX0_lineUp_138 : decode cX0_lineUp 138 = .ok (.iinc 4 1, 3) := by decide +kernel
theorem dX0_lineUp_141 : decode cX0_lineUp 141 = .ok (.goto (-136), 3) := by decide +kernel
theorem dX0_lineUp_144 : decode cX0_lineUp 144 = .ok (.iload_n 3, 1) := by decide +kernel
theorem dX0_lineUp_145 : decode cX0_lineUp 145 = .ok (.ireturn, 1) := by decide +kernel
theorem dX0_shadowsAt_0 : decode cX0_shadowsAt 0 = .ok (.aload_n 0, 1) := by decide +kernel
theorem dX0_shadowsAt_1 : decode cX0_shadowsAt 1 = .ok (.aload_n 1, 1) := by decide +kernel
theorem dX0_shadowsAt_2 : decode cX0_shadowsAt 2 = .ok (.invokevirtual 128, 3) := by decide +kernel
theorem dX0_shadowsAt_5 : decode cX0_shadowsAt 5 = .ok (.aload_n 0, 1) := by decide +kernel
theorem dX0_shadowsAt_6 : decode cX0_shadowsAt 6 = .ok (.getfield 26, 3) := by decide +kernel
theorem dX0_shadowsAt_9 : decode cX0_shadowsAt 9 = .ok (.iload_n 2, 1) := by decide +kernel
theorem dX0_shadowsAt_10 : decode cX0_shadowsAt 10 = .ok (.invokevirtual 131, 3) := by decide +kernel
theorem dX0_shadowsAt_13 : decode cX0_shadowsAt 13 = .ok (.ireturn, 1) := by decide +kernel
theorem dX0_spotsInLampShadows_0 : decode cX0_spotsInLampShadows 0 = .ok (.aload_n 0, 1) := by decide +kernel
theorem dX0_spotsInLampShadows_1 : decode cX0_spotsInLampShadows 1 = .ok (.aload_n 1, 1) := by decide +kernel
theorem dX0_spotsInLampShadows_2 : decode cX0_spotsInLampShadows 2 = .ok (.iconst 0, 1) := by decide +kernel
theorem dX0_spotsInLampShadows_3 : decode cX0_spotsInLampShadows 3 = .ok (.iconst 1, 1) := by decide +kernel
theorem dX0_spotsInLampShadows_4 : decode cX0_spotsInLampShadows 4 = .ok (.invokevirtual 70, 3) := by decide +kernel
theorem dX0_spotsInLampShadows_7 : decode cX0_spotsInLampShadows 7 = .ok (.aload_n 0, 1) := by decide +kernel
theorem dX0_spotsInLampShadows_8 : decode cX0_spotsInLampShadows 8 = .ok (.aload_n 1, 1) := by decide +kernel
theorem dX0_spotsInLampShadows_9 : decode cX0_spotsInLampShadows 9 = .ok (.iload_n 2, 1) := by decide +kernel
theorem dX0_spotsInLampShadows_10 : decode cX0_spotsInLampShadows 10 = .ok (.invokevirtual 111, 3) := by decide +kernel
theorem dX0_spotsInLampShadows_13 : decode cX0_spotsInLampShadows 13 = .ok (.aload_n 0, 1) := by decide +kernel
theorem dX0_spotsInLampShadows_14 : decode cX0_spotsInLampShadows 14 = .ok (.getfield 26, 3) := by decide +kernel
theorem dX0_spotsInLampShadows_17 : decode cX0_spotsInLampShadows 17 = .ok (.getfield 125, 3) := by decide +kernel
theorem dX0_spotsInLampShadows_20 : decode cX0_spotsInLampShadows 20 = .ok (.ireturn, 1) := by decide +kernel
theorem dX0_walkOn_0 : decode cX0_walkOn 0 = .ok (.aload_n 1, 1) := by decide +kernel
theorem dX0_walkOn_1 : decode cX0_walkOn 1 = .ok (.getfield 42, 3) := by decide +kernel
theorem dX0_walkOn_4 : decode cX0_walkOn 4 = .ok (.sipush 9999, 3) := by decide +kernel
theorem dX0_walkOn_7 : decode cX0_walkOn 7 = .ok (.if_icmp .lt 5, 3) := by decide +kernel
theorem dX0_walkOn_10 : decode cX0_walkOn 10 = .ok (.iconst 0, 1) := by decide +kernel
theorem dX0_walkOn_11 : decode cX0_walkOn 11 = .ok (.ireturn, 1) := by decide +kernel
theorem dX0_walkOn_12 : decode cX0_walkOn 12 = .ok (.aload_n 0, 1) := by decide +kernel
theorem dX0_walkOn_13 : decode cX0_walkOn 13 = .ok (.aload_n 1, 1) := by decide +kernel
theorem dX0_walkOn_14 : decode cX0_walkOn 14 = .ok (.invokevirtual 46, 3) := by decide +kernel
theorem dX0_walkOn_17 : decode cX0_walkOn 17 = .ok (.aload_n 0, 1) := by decide +kernel
theorem dX0_walkOn_18 : decode cX0_walkOn 18 = .ok (.aload_n 1, 1) := by decide +kernel
theorem dX0_walkOn_19 : decode cX0_walkOn 19 = .ok (.iconst 1, 1) := by decide +kernel
theorem dX0_walkOn_20 : decode cX0_walkOn 20 = .ok (.iconst 0, 1) := by decide +kernel
theorem dX0_walkOn_21 : decode cX0_walkOn 21 = .ok (.invokevirtual 70, 3) := by decide +kernel
theorem dX0_walkOn_24 : decode cX0_walkOn 24 = .ok (.aload_n 1, 1) := by decide +kernel
theorem dX0_walkOn_25 : decode cX0_walkOn 25 = .ok (.dup, 1) := by decide +kernel
theorem dX0_walkOn_26 : decode cX0_walkOn 26 = .ok (.getfield 42, 3) := by decide +kernel
theorem dX0_walkOn_29 : decode cX0_walkOn 29 = .ok (.iconst 1, 1) := by decide +kernel
theorem dX0_walkOn_30 : decode cX0_walkOn 30 = .ok (.iadd, 1) := by decide +kernel
theorem dX0_walkOn_31 : decode cX0_walkOn 31 = .ok (.putfield 42, 3) := by decide +kernel
theorem dX0_walkOn_34 : decode cX0_walkOn 34 = .ok (.iconst 1, 1) := by decide +kernel
theorem dX0_walkOn_35 : decode cX0_walkOn 35 = .ok (.ireturn, 1) := by decide +kernel
theorem dX7_clear_0 : decode cX7_clear 0 = .ok (.iconst 0, 1) := by decide +kernel
theorem dX7_clear_1 : decode cX7_clear 1 = .ok (.istore_n 1, 1) := by decide +kernel
theorem dX7_clear_2 : decode cX7_clear 2 = .ok (.iload_n 1, 1) := by decide +kernel
theorem dX7_clear_3 : decode cX7_clear 3 = .ok (.aload_n 0, 1) := by decide +kernel
theorem dX7_clear_4 : decode cX7_clear 4 = .ok (.getfield 22, 3) := by decide +kernel
theorem dX7_clear_7 : decode cX7_clear 7 = .ok (.if_icmp .ge 43, 3) := by decide +kernel
theorem dX7_clear_10 : decode cX7_clear 10 = .ok (.iload_n 1, 1) := by decide +kernel
theorem dX7_clear_11 : decode cX7_clear 11 = .ok (.bipush 100, 2) := by decide +kernel
theorem dX7_clear_13 : decode cX7_clear 13 = .ok (.if_icmp .ge 37, 3) := by decide +kernel
theorem dX7_clear_16 : decode cX7_clear 16 = .ok (.aload_n 0, 1) := by decide +kernel
theorem dX7_clear_17 : decode cX7_clear 17 = .ok (.getfield 15, 3) := by decide +kernel
theorem dX7_clear_20 : decode cX7_clear 20 = .ok (.iload_n 1, 1) := by decide +kernel
theorem dX7_clear_21 : decode cX7_clear 21 = .ok (.iaload, 1) := by decide +kernel
theorem dX7_clear_22 : decode cX7_clear 22 = .ok (.istore_n 2, 1) := by decide +kernel
theorem dX7_clear_23 : decode cX7_clear 23 = .ok (.iload_n 2, 1) := by decide +kernel
theorem dX7_clear_24 : decode cX7_clear 24 = .ok (.invokestatic 26, 3) := by decide +kernel
theorem dX7_clear_27 : decode cX7_clear 27 = .ok (.ifCond .eq 17, 3) := by decide +kernel
theorem dX7_clear_30 : decode cX7_clear 30 = .ok (.aload_n 0, 1) := by decide +kernel
theorem dX7_clear_31 : decode cX7_clear 31 = .ok (.getfield 9, 3) := by decide +kernel
theorem dX7_clear_34 : decode cX7_clear 34 = .ok (.iload_n 2, 1) := by decide +kernel
theorem dX7_clear_35 : decode cX7_clear 35 = .ok (.iconst 0, 1) := by decide +kernel
theorem dX7_clear_36 : decode cX7_clear 36 = .ok (.iastore, 1) := by decide +kernel
theorem dX7_clear_37 : decode cX7_clear 37 = .ok (.aload_n 0, 1) := by decide +kernel
theorem dX7_clear_38 : decode cX7_clear 38 = .ok (.getfield 18, 3) := by decide +kernel
theorem dX7_clear_41 : decode cX7_clear 41 = .ok (.iload_n 2, 1) := by decide +kernel
theorem dX7_clear_42 : decode cX7_clear 42 = .ok (.iconst 0, 1) := by decide +kernel
theorem dX7_clear_43 : decode cX7_clear 43 = .ok (.bastore, 1) := by decide +kernel
theorem dX7_clear_44 : decode cX7_clear 44 = .ok (.iinc 1 1, 3) := by decide +kernel
theorem dX7_clear_47 : decode cX7_clear 47 = .ok (.goto (-45), 3) := by decide +kernel
theorem dX7_clear_50 : decode cX7_clear 50 = .ok (.aload_n 0, 1) := by decide +kernel
theorem dX7_clear_51 : decode cX7_clear 51 = .ok (.iconst 0, 1) := by decide +kernel
theorem dX7_clear_52 : decode cX7_clear 52 = .ok (.putfield 22, 3) := by decide +kernel
theorem dX7_clear_55 : decode cX7_clear 55 = .ok (.return_, 1) := by decide +kernel
theorem dX7_howManyInMore_0 : decode cX7_howManyInMore 0 = .ok (.iconst 0, 1) := by decide +kernel
theorem dX7_howManyInMore_1 : decode cX7_howManyInMore 1 = .ok (.istore_n 1, 1) := by decide +kernel
theorem dX7_howManyInMore_2 : decode cX7_howManyInMore 2 = .ok (.iconst 0, 1) := by decide +kernel
theorem dX7_howManyInMore_3 : decode cX7_howManyInMore 3 = .ok (.istore_n 2, 1) := by decide +kernel
theorem dX7_howManyInMore_4 : decode cX7_howManyInMore 4 = .ok (.iload_n 2, 1) := by decide +kernel
theorem dX7_howManyInMore_5 : decode cX7_howManyInMore 5 = .ok (.aload_n 0, 1) := by decide +kernel
theorem dX7_howManyInMore_6 : decode cX7_howManyInMore 6 = .ok (.getfield 22, 3) := by decide +kernel
theorem dX7_howManyInMore_9 : decode cX7_howManyInMore 9 = .ok (.if_icmp .ge 37, 3) := by decide +kernel
theorem dX7_howManyInMore_12 : decode cX7_howManyInMore 12 = .ok (.iload_n 2, 1) := by decide +kernel
theorem dX7_howManyInMore_13 : decode cX7_howManyInMore 13 = .ok (.bipush 100, 2) := by decide +kernel
theorem dX7_howManyInMore_15 : decode cX7_howManyInMore 15 = .ok (.if_icmp .ge 31, 3) := by decide +kernel
theorem dX7_howManyInMore_18 : decode cX7_howManyInMore 18 = .ok (.iload_n 1, 1) := by decide +kernel
theorem dX7_howManyInMore_19 : decode cX7_howManyInMore 19 = .ok (.aload_n 0, 1) := by decide +kernel
theorem dX7_howManyInMore_20 : decode cX7_howManyInMore 20 = .ok (.aload_n 0, 1) := by decide +kernel
theorem dX7_howManyInMore_21 : decode cX7_howManyInMore 21 = .ok (.getfield 15, 3) := by decide +kernel
theorem dX7_howManyInMore_24 : decode cX7_howManyInMore 24 = .ok (.iload_n 2, 1) := by decide +kernel
theorem dX7_howManyInMore_25 : decode cX7_howManyInMore 25 = .ok (.iaload, 1) := by decide +kernel
theorem dX7_howManyInMore_26 : decode cX7_howManyInMore 26 = .ok (.invokevirtual 40, 3) := by decide +kernel
theorem dX7_howManyInMore_29 : decode cX7_howManyInMore 29 = .ok (.iconst 1, 1) := by decide +kernel
theorem dX7_howManyInMore_30 : decode cX7_howManyInMore 30 = .ok (.if_icmp .le 7, 3) := by decide +kernel
theorem dX7_howManyInMore_33 : decode cX7_howManyInMore 33 = .ok (.iconst 1, 1) := by decide +kernel
theorem dX7_howManyInMore_34 : decode cX7_howManyInMore 34 = .ok (.goto 4, 3) := by decide +kernel
theorem dX7_howManyInMore_37 : decode cX7_howManyInMore 37 = .ok (.iconst 0, 1) := by decide +kernel
theorem dX7_howManyInMore_38 : decode cX7_howManyInMore 38 = .ok (.iadd, 1) := by decide +kernel
theorem dX7_howManyInMore_39 : decode cX7_howManyInMore 39 = .ok (.istore_n 1, 1) := by decide +kernel
theorem dX7_howManyInMore_40 : decode cX7_howManyInMore 40 = .ok (.iinc 2 1, 3) := by decide +kernel
theorem dX7_howManyInMore_43 : decode cX7_howManyInMore 43 = .ok (.goto (-39), 3) := by decide +kernel
theorem dX7_howManyInMore_46 : decode cX7_howManyInMore 46 = .ok (.iload_n 1, 1) := by decide +kernel
theorem dX7_howManyInMore_47 : decode cX7_howManyInMore 47 = .ok (.ireturn, 1) := by decide +kernel
theorem dX7_layersAt_0 : decode cX7_layersAt 0 = .ok (.iload_n 1, 1) := by decide +kernel
theorem dX7_layersAt_1 : decode cX7_layersAt 1 = .ok (.invokestatic 26, 3) := by decide +kernel
theorem dX7_layersAt_4 : decode cX7_layersAt 4 = .ok (.ifCond .eq 12, 3) := by decide +kernel
theorem dX7_layersAt_7 : decode cX7_layersAt 7 = .ok (.aload_n 0, 1) := by decide +kernel
theorem dX7_layersAt_8 : decode cX7_layersAt 8 = .ok (.getfield 9, 3) := by decide +kernel
theorem dX7_layersAt_11 : decode cX7_layersAt 11 = .ok (.iload_n 1, 1) := by decide +kernel
theorem dX7_layersAt_12 : decode cX7_layersAt 12 = .ok (.iaload, 1) := by decide +kernel
theorem dX7_layersAt_13 : decode cX7_layersAt 13 = .ok (.goto 4, 3) := by decide +kernel
theorem dX7_layersAt_16 : decode cX7_layersAt 16 = .ok (.iconst 0, 1) := by decide +kernel
theorem dX7_layersAt_17 : decode cX7_layersAt 17 = .ok (.ireturn, 1) := by decide +kernel
end
section
set_option maxHeartbeats 4000000 in
set_option maxRecDepth 100000 in
theorem c_X7_layersAt (l : Launch) (D : va_G) (g : xG) (T : Nat × Nat × Nat) (h0 : Nat) (s0 : xS) (hσ : xRR s0) (x : Int) (rx : xR x) (p0 : s0 131 = fun _ => 0) : Met l yX7_layersAt (xws yX7_layersAt cX7_layersAt 2 (some .int)) { frames := 1, cells := 0, slots := 0, locals := 20 } (xP [.ref (h0 + 130), .int (xJ x)] D g T h0 s0) (xQi D g h0 (fun r τ => s0 = τ ∧ (r = 0))) 0 0 (xA h0) := by
  refine x_met hσ (by decide) (Nat.le_of_ble_eq_true rfl) ?_
  intro p e s m args below meth c hx hb hr hml hown hT hlk hnm hE hW ls hl
  have hl : lv_has ls 2 [(0, .ref (h0 + 130)), (1, .int (xJ x))] := hl
  obtain ⟨Q, eQ⟩ : ∃ Q, Q = MQ below (xQi D g h0 (fun r τ => s0 = τ ∧ (r = 0))) args s 0 0 (xA h0) := ⟨_, rfl⟩
  rw [← eQ]
  generalize hHe : ([] : List Loc) = locs at hW ⊢
  obtain ⟨H, eH⟩ : ∃ H, H = s.heap := ⟨_, rfl⟩
  rw [← eH] at hW ⊢
  refine x_iload_n hx hb hl 1 rfl dX7_layersAt_0 rfl ?_
  refine x_goi (x_runSN (As := [.int (xJ x)]) hx hb hml hown hT hE hW hl.1 cf_X6_isSpot wq831 wn830 (c_X6_isSpot l D g T h0 s0 hW.2.1 x rx) ⟨rfl, rfl, ⟨by decide, by decide⟩, ⟨by decide, by decide⟩⟩ rfl rfl (Nat.le_of_ble_eq_true rfl) dX7_layersAt_1) hW (fun x1 s2 H locs rx1 hp3 hW => ?_)
  obtain ⟨es2, hp3⟩ := hp3
  subst es2
  have ghp3 := hp3
  refine x_if_eq (tgt := 16) hx hb rx1 dX7_layersAt_4 (by decide) (fun c4 => ?_) (fun c4 => ?_)
  · skip
    refine x_iconst hx hb dX7_layersAt_16 ?_
    rw [eQ]
    exact x_iret hx hb hr hlk hW (by decide) ⟨rfl, by omega⟩ dX7_layersAt_17
  refine x_aload_n hx hb hl 0 rfl dX7_layersAt_7 rfl ?_
  refine x_get (j := 0) (v := .ref (h0 + 131)) hx hb hown hT hE hW cls_X7 (Or.inl (by decide)) (so_130 h0 g _) (by decide) rfl wq330 dX7_layersAt_8 ?_
  refine x_iload_n hx hb hl 1 rfl dX7_layersAt_11 rfl ?_
  refine x_iald hx hb hE hW (Or.inl (by decide)) (sa_131 h0 g _) (by omega) (by decide) dX7_layersAt_12 ?_
  refine x_rd hW (fun x5 ex5 rx5 => ?_)
  have fx5 : x5 = 0 := by rw [ex5, p0]
  refine lv_goto (tgt := 17) hx hb dX7_layersAt_13 (by decide) ?_
  rw [eQ]
  exact x_iret hx hb hr hlk hW rx5 ⟨rfl, by omega⟩ dX7_layersAt_17
set_option maxHeartbeats 4000000 in
set_option maxRecDepth 100000 in
theorem c_X7_clear (l : Launch) (D : va_G) (g : xG) (T : Nat × Nat × Nat) (h0 : Nat) (s0 : xS) (hσ : xRR s0) (p0 : s0 130 3 = 0) : Met l yX7_clear (xws yX7_clear cX7_clear 3 none) { frames := 0, cells := 0, slots := 0, locals := 0 } (xP [.ref (h0 + 130)] D g T h0 s0) (xQv D g h0 (fun τ => xFr (fun k => k = 130) s0 τ ∧ (((τ 130 3 = 0) ∧ True) ∧ (True)))) 0 0 (xA h0) := by
  refine x_met hσ (by decide) (Nat.le_of_ble_eq_true rfl) ?_
  intro p e s m args below meth c hx hb hr hml hown hT hlk hnm hE hW ls hl
  have hl : lv_has ls 3 [(0, .ref (h0 + 130))] := hl
  obtain ⟨Q, eQ⟩ : ∃ Q, Q = MQ below (xQv D g h0 (fun τ => xFr (fun k => k = 130) s0 τ ∧ (((τ 130 3 = 0) ∧ True) ∧ (True)))) args s 0 0 (xA h0) := ⟨_, rfl⟩
  rw [← eQ]
  generalize hHe : ([] : List Loc) = locs at hW ⊢
  obtain ⟨H, eH⟩ : ∃ H, H = s.heap := ⟨_, rfl⟩
  rw [← eH] at hW ⊢
  have hF : xFr (fun k => k = 130) s0 s0 := xFr.rf
  refine x_iconst hx hb dX7_clear_0 ?_
  refine lv_istore_n (lv' := [(1, .int (xJ 0)), (0, .ref (h0 + 130))]) hx hb dX7_clear_1 rfl hl (by decide) rfl (fun ls hl => ?_)
  refine x_iload_n hx hb hl 0 rfl dX7_clear_2 rfl ?_
  refine x_aload_n hx hb hl 1 rfl dX7_clear_3 rfl ?_
  refine x_get (j := 3) (v := .int (xJ (s0 130 3))) hx hb hown hT hE hW cls_X7 (Or.inl (by decide)) (so_130 h0 g _) (by decide) rfl wq337 dX7_clear_4 ?_
  refine x_rd hW (fun x1 ex1 rx1 => ?_)
  have fx1 : x1 = 0 := by rw [ex1, p0]
  refine x_icmp_ge (tgt := 50) hx hb (by decide) rx1 dX7_clear_7 (by decide) (fun c2 => ?_) (fun c2 => False.elim (by omega))
  refine x_aload_n hx hb hl 1 rfl dX7_clear_50 rfl ?_
  refine x_iconst hx hb dX7_clear_51 ?_
  refine x_put (j := 3) hx hb hown hT hE hW cls_X7 (by decide) (fun σ => so_130 h0 g σ) (by decide) (st_X7_3 h0 s0 130 0) (ln_X7_3 h0 _ _) wq337 rfl rfl rfl (by decide) dX7_clear_52 (fun H locs s3 es3 hW => ?_)
  have q4 : s3 130 3 = 0 := by rw [es3, xU_s]
  have hF5 := hF.put es3 (by omega)
  rw [eQ]
  exact x_vret hx hb hr hlk hW ⟨hF5, ⟨q4, trivial⟩, trivial⟩ dX7_clear_55
set_option maxHeartbeats 4000000 in
set_option maxRecDepth 100000 in
theorem c_X7_howManyInMore (l : Launch) (D : va_G) (g : xG) (T : Nat × Nat × Nat) (h0 : Nat) (s0 : xS) (hσ : xRR s0) (p0 : s0 130 3 = 0) : Met l yX7_howManyInMore (xws yX7_howManyInMore cX7_howManyInMore 3 (some .int)) { frames := 0, cells := 0, slots := 0, locals := 0 } (xP [.ref (h0 + 130)] D g T h0 s0) (xQi D g h0 (fun r τ => s0 = τ ∧ (r = 0))) 0 0 (xA h0) := by
  refine x_met hσ (by decide) (Nat.le_of_ble_eq_true rfl) ?_
  intro p e s m args below meth c hx hb hr hml hown hT hlk hnm hE hW ls hl
  have hl : lv_has ls 3 [(0, .ref (h0 + 130))] := hl
  obtain ⟨Q, eQ⟩ : ∃ Q, Q = MQ below (xQi D g h0 (fun r τ => s0 = τ ∧ (r = 0))) args s 0 0 (xA h0) := ⟨_, rfl⟩
  rw [← eQ]
  generalize hHe : ([] : List Loc) = locs at hW ⊢
  obtain ⟨H, eH⟩ : ∃ H, H = s.heap := ⟨_, rfl⟩
  rw [← eH] at hW ⊢
  refine x_iconst hx hb dX7_howManyInMore_0 ?_
  refine lv_istore_n (lv' := [(1, .int (xJ 0)), (0, .ref (h0 + 130))]) hx hb dX7_howManyInMore_1 rfl hl (by decide) rfl (fun ls hl => ?_)
  refine x_iconst hx hb dX7_howManyInMore_2 ?_
  refine lv_istore_n (lv' := [(2, .int (xJ 0)), (1, .int (xJ 0)), (0, .ref (h0 + 130))]) hx hb dX7_howManyInMore_3 rfl hl (by decide) rfl (fun ls hl => ?_)
  refine x_iload_n hx hb hl 0 rfl dX7_howManyInMore_4 rfl ?_
  refine x_aload_n hx hb hl 2 rfl dX7_howManyInMore_5 rfl ?_
  refine x_get (j := 3) (v := .int (xJ (s0 130 3))) hx hb hown hT hE hW cls_X7 (Or.inl (by decide)) (so_130 h0 g _) (by decide) rfl wq337 dX7_howManyInMore_6 ?_
  refine x_rd hW (fun x1 ex1 rx1 => ?_)
  have fx1 : x1 = 0 := by rw [ex1, p0]
  refine x_icmp_ge (tgt := 46) hx hb (by decide) rx1 dX7_howManyInMore_9 (by decide) (fun c2 => ?_) (fun c2 => False.elim (by omega))
  refine x_iload_n hx hb hl 1 rfl dX7_howManyInMore_46 rfl ?_
  rw [eQ]
  exact x_iret hx hb hr hlk hW (by decide) ⟨rfl, by omega⟩ dX7_howManyInMore_47
set_option maxHeartbeats 4000000 in
set_option maxRecDepth 100000 in
theorem c_X0_judgesStep (l : Launch) (D : va_G) (g : xG) (T : Nat × Nat × Nat) (h0 : Nat) (s0 : xS) (hσ : xRR s0) (d : Nat) (hd : xDay d) (p0 : s0 (d + 1) = fun _ => (-1)) : Met l yX0_judgesStep (xws yX0_judgesStep cX0_judgesStep 5 none) { frames := 1, cells := 0, slots := 0, locals := 21 } (xP [.ref (h0 + 128), .ref (h0 + d)] D g T h0 s0) (xQv D g h0 (fun τ => s0 = τ ∧ (True))) 0 0 (xA h0) := by
  refine x_met hσ (by decide) (Nat.le_of_ble_eq_true rfl) ?_
  intro p e s m args below meth c hx hb hr hml hown hT hlk hnm hE hW ls hl
  have hl : lv_has ls 5 [(0, .ref (h0 + 128)), (1, .ref (h0 + d))] := hl
  obtain ⟨Q, eQ⟩ : ∃ Q, Q = MQ below (xQv D g h0 (fun τ => s0 = τ ∧ (True))) args s 0 0 (xA h0) := ⟨_, rfl⟩
  rw [← eQ]
  generalize hHe : ([] : List Loc) = locs at hW ⊢
  obtain ⟨H, eH⟩ : ∃ H, H = s.heap := ⟨_, rfl⟩
  rw [← eH] at hW ⊢
  have hbd : (136 ≤ d ∧ d < 209) ∧ (d ≤ 146 ∨ 158 ≤ d) := by unfold xDay at hd; omega
  refine x_iconst hx hb dX0_judgesStep_0 ?_
  refine lv_istore_n (lv' := [(2, .int (xJ 0)), (0, .ref (h0 + 128)), (1, .ref (h0 + d))]) hx hb dX0_judgesStep_1 rfl hl (by decide) rfl (fun ls hl => ?_)
  have L2 : ∀ (fu : Nat) (i2_2 : Int) (H : Heap) (locs : List Loc) (ls : Array Slot), (xR i2_2) → (0 ≤ i2_2) → (2 - i2_2).toNat < fu → xW D g h0 s H locs s0 → lv_has ls 5 [(1, .ref (h0 + d)), (2, .int (xJ i2_2))] → W p l e { frames := 1, cells := 0, slots := 0, locals := 21 } s m args below meth c H locs 0 0 Q (F0 m 2 ls []) := by
    intro fu
    induction fu with
    | zero => intro i2_2 H locs ls ri2_2 v2_0 hm; exact absurd hm (Nat.not_lt_zero _)
    | succ fu ih2 =>
      intro i2_2 H locs ls ri2_2 v2_0 hm hW hl
      refine x_iload_n hx hb hl 1 rfl dX0_judgesStep_2 rfl ?_
      refine x_iconst hx hb dX0_judgesStep_3 ?_
      refine x_icmp_ge (tgt := 85) hx hb ri2_2 (by decide) dX0_judgesStep_4 (by decide) (fun c1 => ?_) (fun c1 => ?_)
      · skip
        rw [eQ]
        exact x_vret hx hb hr hlk hW ⟨rfl, trivial⟩ dX0_judgesStep_85
      refine x_aload_n hx hb hl 0 rfl dX0_judgesStep_7 rfl ?_
      refine x_iload_n hx hb hl 1 rfl dX0_judgesStep_8 rfl ?_
      refine x_goi (x_runVN (As := [.int (xJ i2_2)]) hx hb hml hown hT hE hW hl.1 (Or.inl (by omega)) (so_day0 h0 g hd _) rfl cf_X2_hasJudge wq773 wq37 wn771 (c_X2_hasJudge l D g T h0 s0 hW.2.1 d hd i2_2 ri2_2 p0) ⟨rfl, rfl, ⟨by decide, by decide⟩, ⟨by decide, by decide⟩⟩ rfl rfl (Nat.le_of_ble_eq_true rfl) dX0_judgesStep_9) hW (fun x2 s3 H locs rx2 hp4 hW => ?_)
      obtain ⟨es3, hp4⟩ := hp4
      subst es3
      have ghp4 := hp4
      refine x_if_ne (tgt := 18) hx hb rx2 dX0_judgesStep_12 (by decide) (fun c5 => False.elim (by omega)) (fun c5 => ?_)
      refine lv_goto (tgt := 79) hx hb dX0_judgesStep_15 (by decide) ?_
      refine x_iinc (lv' := [(2, .int (xJ (i2_2 + 1))), (1, .ref (h0 + d))]) hx hb hl 1 rfl dX0_judgesStep_79 (by decide) rfl (fun ls hl => ?_)
      refine lv_goto (tgt := 2) hx hb dX0_judgesStep_82 (by decide) ?_
      exact ih2 (i2_2 + 1) H locs ls (by omega) (by omega) (by omega) hW (lv_sub hl [1, 0] rfl)
  exact L2 ((2 - 0 : Int).toNat + 1) 0 H locs ls (by decide) (by omega) (Nat.lt_succ_self _) hW (lv_sub hl [2, 0] rfl)
set_option maxHeartbeats 4000000 in
set_option maxRecDepth 100000 in
theorem c_X0_castOfLamp (l : Launch) (D : va_G) (g : xG) (T : Nat × Nat × Nat) (h0 : Nat) (s0 : xS) (hσ : xRR s0) (d : Nat) (hd : xDay d) (a : Int) (ra : xR a) (p0 : s0 (d + 1) = fun _ => (-1)) (p1 : s0 4 = fun _ => 0) : Met l yX0_castOfLamp (xws yX0_castOfLamp cX0_castOfLamp 6 none) { frames := 1, cells := 0, slots := 0, locals := 23 } (xP [.ref (h0 + 128), .ref (h0 + d), .int (xJ a)] D g T h0 s0) (xQv D g h0 (fun τ => s0 = τ ∧ (True))) 0 0 (xA h0) := by
  refine x_met hσ (by decide) (Nat.le_of_ble_eq_true rfl) ?_
  intro p e s m args below meth c hx hb hr hml hown hT hlk hnm hE hW ls hl
  have hl : lv_has ls 6 [(0, .ref (h0 + 128)), (1, .ref (h0 + d)), (2, .int (xJ a))] := hl
  obtain ⟨Q, eQ⟩ : ∃ Q, Q = MQ below (xQv D g h0 (fun τ => s0 = τ ∧ (True))) args s 0 0 (xA h0) := ⟨_, rfl⟩
  rw [← eQ]
  generalize hHe : ([] : List Loc) = locs at hW ⊢
  obtain ⟨H, eH⟩ : ∃ H, H = s.heap := ⟨_, rfl⟩
  rw [← eH] at hW ⊢
  have hbd : (136 ≤ d ∧ d < 209) ∧ (d ≤ 146 ∨ 158 ≤ d) := by unfold xDay at hd; omega
  refine x_iconst hx hb dX0_castOfLamp_0 ?_
  refine lv_istore_n (lv' := [(3, .int (xJ 0)), (0, .ref (h0 + 128)), (1, .ref (h0 + d)), (2, .int (xJ a))]) hx hb dX0_castOfLamp_1 rfl hl (by decide) rfl (fun ls hl => ?_)
  have L2 : ∀ (fu : Nat) (i3_2 : Int) (H : Heap) (locs : List Loc) (ls : Array Slot), (xR i3_2) → (0 ≤ i3_2) → (8 - i3_2).toNat < fu → xW D g h0 s H locs s0 → lv_has ls 6 [(0, .ref (h0 + 128)), (1, .ref (h0 + d)), (2, .int (xJ a)), (3, .int (xJ i3_2))] → W p l e { frames := 1, cells := 0, slots := 0, locals := 23 } s m args below meth c H locs 0 0 Q (F0 m 2 ls []) := by
    intro fu
    induction fu with
    | zero => intro i3_2 H locs ls ri3_2 v2_0 hm; exact absurd hm (Nat.not_lt_zero _)
    | succ fu ih2 =>
      intro i3_2 H locs ls ri3_2 v2_0 hm hW hl
      refine x_iload_n hx hb hl 3 rfl dX0_castOfLamp_2 rfl ?_
      refine va_getsN hx hb hE.2.2.1.1 hW.2.2 hown (xE_N hE wn847 rfl) (fun _ h9 => h9) dX0_castOfLamp_3 ?_
      refine va_tlen (v := xJ 8) hx hb hE.2.2.1.2 hW.2.2 rfl dX0_castOfLamp_6 ?_
      refine x_icmp_ge (tgt := 90) hx hb ri3_2 (by decide) dX0_castOfLamp_7 (by decide) (fun c1 => ?_) (fun c1 => ?_)
      · skip
        rw [eQ]
        exact x_vret hx hb hr hlk hW ⟨rfl, trivial⟩ dX0_castOfLamp_90
      refine x_iload_n hx hb hl 2 rfl dX0_castOfLamp_10 rfl ?_
      refine x_iconst hx hb dX0_castOfLamp_11 ?_
      refine x_icmp_eq (tgt := 90) hx hb ra (by decide) dX0_castOfLamp_12 (by decide) (fun c2 => ?_) (fun c2 => ?_)
      · skip
        rw [eQ]
        exact x_vret hx hb hr hlk hW ⟨rfl, trivial⟩ dX0_castOfLamp_90
      refine x_iload_n hx hb hl 2 rfl dX0_castOfLamp_15 rfl ?_
      refine lv_istore (lv' := [(4, .int (xJ a)), (0, .ref (h0 + 128)), (1, .ref (h0 + d)), (2, .int (xJ a)), (3, .int (xJ i3_2))]) hx hb dX0_castOfLamp_16 hl (by decide) rfl (fun ls hl => ?_)
      refine x_iconst hx hb dX0_castOfLamp_18 ?_
      refine lv_istore (lv' := [(5, .int (xJ 0)), (4, .int (xJ a)), (0, .ref (h0 + 128)), (1, .ref (h0 + d)), (2, .int (xJ a)), (3, .int (xJ i3_2))]) hx hb dX0_castOfLamp_19 hl (by decide) rfl (fun ls hl => ?_)
      have L21 : ∀ (fu : Nat) (i4_21 : Int) (i5_21 : Int) (H : Heap) (locs : List Loc) (ls : Array Slot), (xR i4_21) → (xR i5_21) → (0 ≤ i5_21) → (4 - i5_21).toNat < fu → xW D g h0 s H locs s0 → lv_has ls 6 [(0, .ref (h0 + 128)), (1, .ref (h0 + d)), (2, .int (xJ a)), (3, .int (xJ i3_2)), (4, .int (xJ i4_21)), (5, .int (xJ i5_21))] → W p l e { frames := 1, cells := 0, slots := 0, locals := 23 } s m args below meth c H locs 0 0 Q (F0 m 21 ls []) := by
        intro fu
        induction fu with
        | zero => intro i4_21 i5_21 H locs ls ri4_21 ri5_21 v21_0 hm; exact absurd hm (Nat.not_lt_zero _)
        | succ fu ih21 =>
          intro i4_21 i5_21 H locs ls ri4_21 ri5_21 v21_0 hm hW hl
          refine x_iload hx hb hl 5 rfl dX0_castOfLamp_21 ?_
          refine x_iconst hx hb dX0_castOfLamp_23 ?_
          refine x_icmp_ge (tgt := 84) hx hb ri5_21 (by decide) dX0_castOfLamp_24 (by decide) (fun c3 => ?_) (fun c3 => ?_)
          · skip
            refine x_iinc (lv' := [(3, .int (xJ (i3_2 + 1))), (0, .ref (h0 + 128)), (1, .ref (h0 + d)), (2, .int (xJ a)), (4, .int (xJ i4_21)), (5, .int (xJ i5_21))]) hx hb hl 3 rfl dX0_castOfLamp_84 (by decide) rfl (fun ls hl => ?_)
            refine lv_goto (tgt := 2) hx hb dX0_castOfLamp_87 (by decide) ?_
            exact ih2 (i3_2 + 1) H locs ls (by omega) (by omega) (by omega) hW (lv_sub hl [1, 2, 3, 0] rfl)
          refine x_iload hx hb hl 4 rfl dX0_castOfLamp_27 ?_
          refine x_iload_n hx hb hl 3 rfl dX0_castOfLamp_29 rfl ?_
          refine x_goi (x_runSN (As := [.int (xJ i4_21), .int (xJ i3_2)]) hx hb hml hown hT hE hW hl.1 cf_X6_beside wq784 wn783 (c_X6_beside l D g T h0 s0 hW.2.1 i4_21 ri4_21 i3_2 ri3_2) ⟨rfl, rfl, ⟨by decide, by decide⟩, ⟨by decide, by decide⟩⟩ rfl rfl (Nat.le_of_ble_eq_true rfl) dX0_castOfLamp_30) hW (fun x4 s5 H locs rx4 hp6 hW => ?_)
          obtain ⟨es5, hp6⟩ := hp6
          subst es5
          have ghp6 := hp6
          refine lv_istore (lv' := [(4, .int (xJ x4)), (0, .ref (h0 + 128)), (1, .ref (h0 + d)), (2, .int (xJ a)), (3, .int (xJ i3_2)), (5, .int (xJ i5_21))]) hx hb dX0_castOfLamp_33 hl (by decide) rfl (fun ls hl => ?_)
          refine x_aload_n hx hb hl 1 rfl dX0_castOfLamp_35 rfl ?_
          refine x_get (j := 0) (v := .ref (h0 + 3)) hx hb hown hT hE hW cls_X0 (Or.inl (by decide)) (so_128 h0 g _) (by decide) rfl wq351 dX0_castOfLamp_36 ?_
          refine x_iload hx hb hl 0 rfl dX0_castOfLamp_39 ?_
          refine x_goi (x_runVN (As := [.int (xJ x4)]) hx hb hml hown hT hE hW hl.1 (Or.inl (by decide)) (so_3 h0 g _) rfl cf_X6_kindAt wq619 wq10 wn848 (c_X6_kindAt l D g T h0 s0 hW.2.1 x4 rx4 p1) ⟨rfl, rfl, ⟨by decide, by decide⟩, ⟨by decide, by decide⟩⟩ rfl rfl (Nat.le_of_ble_eq_true rfl) dX0_castOfLamp_41) hW (fun x7 s8 H locs rx7 hp9 hW => ?_)
          obtain ⟨es8, hp9⟩ := hp9
          subst es8
          have ghp9 := hp9
          refine x_iconst hx hb dX0_castOfLamp_44 ?_
          refine x_icmp_ne (tgt := 51) hx hb rx7 (by decide) dX0_castOfLamp_45 (by decide) (fun c10 => ?_) (fun c10 => ?_)
          · skip
            refine x_aload_n hx hb hl 2 rfl dX0_castOfLamp_51 rfl ?_
            refine x_getN (j := 0) (v := .ref (h0 + (d + 1))) hx hb hown hT hE hW cls_X2 (Or.inl (by omega)) (so_day0 h0 g hd _) (by decide) rfl wn384 dX0_castOfLamp_52 ?_
            refine x_iload hx hb hl 0 rfl dX0_castOfLamp_55 ?_
            refine x_goi (x_runSN (As := [.ref (h0 + (d + 1)), .int (xJ x4)]) hx hb hml hown hT hE hW hl.1 cf_X10_holds wq850 wn849 (c_X10_holds2 l D g T h0 s0 hW.2.1 (d + 1) (by omega) (fun σ => sa_day1 h0 g hd σ) x4 rx4 (by omega) p0) ⟨rfl, rfl, ⟨by decide, by decide⟩, ⟨by decide, by decide⟩⟩ rfl rfl (Nat.le_of_ble_eq_true rfl) dX0_castOfLamp_57) hW (fun x11 s12 H locs rx11 hp13 hW => ?_)
            obtain ⟨es12, hp13⟩ := hp13
            subst es12
            have ghp13 := hp13
            refine x_if_eq (tgt := 78) hx hb rx11 dX0_castOfLamp_60 (by decide) (fun c14 => ?_) (fun c14 => False.elim (by omega))
            refine x_iinc (lv' := [(5, .int (xJ (i5_21 + 1))), (4, .int (xJ x4)), (0, .ref (h0 + 128)), (1, .ref (h0 + d)), (2, .int (xJ a)), (3, .int (xJ i3_2))]) hx hb hl 5 rfl dX0_castOfLamp_78 (by decide) rfl (fun ls hl => ?_)
            refine lv_goto (tgt := 21) hx hb dX0_castOfLamp_81 (by decide) ?_
            exact ih21 x4 (i5_21 + 1) H locs ls rx4 (by omega) (by omega) (by omega) hW (lv_sub hl [2, 3, 4, 5, 1, 0] rfl)
          refine lv_goto (tgt := 84) hx hb dX0_castOfLamp_48 (by decide) ?_
          refine x_iinc (lv' := [(3, .int (xJ (i3_2 + 1))), (4, .int (xJ x4)), (0, .ref (h0 + 128)), (1, .ref (h0 + d)), (2, .int (xJ a)), (5, .int (xJ i5_21))]) hx hb hl 4 rfl dX0_castOfLamp_84 (by decide) rfl (fun ls hl => ?_)
          refine lv_goto (tgt := 2) hx hb dX0_castOfLamp_87 (by decide) ?_
          exact ih2 (i3_2 + 1) H locs ls (by omega) (by omega) (by omega) hW (lv_sub hl [2, 3, 4, 0] rfl)
      exact L21 ((4 - 0 : Int).toNat + 1) a 0 H locs ls ra (by decide) (by omega) (Nat.lt_succ_self _) hW (lv_sub hl [2, 3, 4, 5, 1, 0] rfl)
  exact L2 ((8 - 0 : Int).toNat + 1) 0 H locs ls (by decide) (by omega) (Nat.lt_succ_self _) hW (lv_sub hl [1, 2, 3, 0] rfl)
set_option maxHeartbeats 4000000 in
set_option maxRecDepth 100000 in
theorem c_X0_cast (l : Launch) (D : va_G) (g : xG) (T : Nat × Nat × Nat) (h0 : Nat) (s0 : xS) (hσ : xRR s0) (d : Nat) (hd : xDay d) (a : Int) (ra : xR a) (b : Int) (rb : xR b) (p0 : s0 (d + 1) = fun _ => (-1)) (p1 : s0 4 = fun _ => 0) (p2 : s0 129 = fun _ => (-1)) (p3 : s0 130 3 = 0) : Met l yX0_cast (xws yX0_cast cX0_cast 6 none) { frames := 2, cells := 0, slots := 0, locals := 48 } (xP [.ref (h0 + 128), .ref (h0 + d), .int (xJ a), .int (xJ b)] D g T h0 s0) (xQv D g h0 (fun τ => xFr (fun k => k = 130) s0 τ ∧ (((τ 130 3 = 0) ∧ True) ∧ (True)))) 0 0 (xA h0) := by
  refine x_met hσ (by decide) (Nat.le_of_ble_eq_true rfl) ?_
  intro p e s m args below meth c hx hb hr hml hown hT hlk hnm hE hW ls hl
  have hl : lv_has ls 6 [(0, .ref (h0 + 128)), (1, .ref (h0 + d)), (2, .int (xJ a)), (3, .int (xJ b))] := hl
  obtain ⟨Q, eQ⟩ : ∃ Q, Q = MQ below (xQv D g h0 (fun τ => xFr (fun k => k = 130) s0 τ ∧ (((τ 130 3 = 0) ∧ True) ∧ (True)))) args s 0 0 (xA h0) := ⟨_, rfl⟩
  rw [← eQ]
  generalize hHe : ([] : List Loc) = locs at hW ⊢
  obtain ⟨H, eH⟩ : ∃ H, H = s.heap := ⟨_, rfl⟩
  rw [← eH] at hW ⊢
  have hF : xFr (fun k => k = 130) s0 s0 := xFr.rf
  have hbd : (136 ≤ d ∧ d < 209) ∧ (d ≤ 146 ∨ 158 ≤ d) := by unfold xDay at hd; omega
  refine x_aload_n hx hb hl 0 rfl dX0_cast_0 rfl ?_
  refine x_get (j := 3) (v := .ref (h0 + 130)) hx hb hown hT hE hW cls_X0 (Or.inl (by decide)) (so_128 h0 g _) (by decide) rfl wq357 dX0_cast_1 ?_
  refine x_gov (x_runVN (As := []) hx hb hml hown hT hE hW hl.1 (Or.inl (by decide)) (so_130 h0 g _) rfl cf_X7_clear wq828 wq47 wn826 (c_X7_clear l D g T h0 s0 hW.2.1 p3) ⟨rfl, rfl, ⟨by decide, by decide⟩, ⟨by decide, by decide⟩⟩ rfl rfl (Nat.le_of_ble_eq_true rfl) dX0_cast_4) hW (fun s2 H locs hp3 hW => ?_)
  obtain ⟨fs2, hp3⟩ := hp3
  have hF4 := hF.call fs2 (fun k h => by omega)
  have q5 : s2 (d + 1) = fun _ => (-1) := (fs2 _ (by omega)).trans p0
  have q6 : s2 4 = fun _ => 0 := (fs2 _ (by omega)).trans p1
  have q7 : s2 129 = fun _ => (-1) := (fs2 _ (by omega)).trans p2
  have ghp3 := hp3.2
  refine x_iconst hx hb dX0_cast_7 ?_
  refine lv_istore (lv' := [(4, .int (xJ 0)), (0, .ref (h0 + 128)), (1, .ref (h0 + d)), (2, .int (xJ a)), (3, .int (xJ b))]) hx hb dX0_cast_8 hl (by decide) rfl (fun ls hl => ?_)
  have L10 : ∀ (fu : Nat) (i4_10 : Int) (H : Heap) (locs : List Loc) (ls : Array Slot), (xR i4_10) → (0 ≤ i4_10) → (2 - i4_10).toNat < fu → xW D g h0 s H locs s2 → lv_has ls 6 [(0, .ref (h0 + 128)), (1, .ref (h0 + d)), (2, .int (xJ a)), (3, .int (xJ b)), (4, .int (xJ i4_10))] → W p l e { frames := 2, cells := 0, slots := 0, locals := 48 } s m args below meth c H locs 0 0 Q (F0 m 10 ls []) := by
    intro fu
    induction fu with
    | zero => intro i4_10 H locs ls ri4_10 v10_0 hm; exact absurd hm (Nat.not_lt_zero _)
    | succ fu ih10 =>
      intro i4_10 H locs ls ri4_10 v10_0 hm hW hl
      refine x_iload hx hb hl 4 rfl dX0_cast_10 ?_
      refine x_iconst hx hb dX0_cast_12 ?_
      refine x_icmp_ge (tgt := 97) hx hb ri4_10 (by decide) dX0_cast_13 (by decide) (fun c8 => ?_) (fun c8 => ?_)
      · skip
        refine x_iconst hx hb dX0_cast_97 ?_
        refine lv_istore (lv' := [(4, .int (xJ 0)), (0, .ref (h0 + 128)), (1, .ref (h0 + d)), (2, .int (xJ a)), (3, .int (xJ b))]) hx hb dX0_cast_98 hl (by decide) rfl (fun ls hl => ?_)
        have L100 : ∀ (fu : Nat) (i4_100 : Int) (H : Heap) (locs : List Loc) (ls : Array Slot), (xR i4_100) → (0 ≤ i4_100) → (4 - i4_100).toNat < fu → xW D g h0 s H locs s2 → lv_has ls 6 [(0, .ref (h0 + 128)), (1, .ref (h0 + d)), (3, .int (xJ b)), (4, .int (xJ i4_100))] → W p l e { frames := 2, cells := 0, slots := 0, locals := 48 } s m args below meth c H locs 0 0 Q (F0 m 100 ls []) := by
          intro fu
          induction fu with
          | zero => intro i4_100 H locs ls ri4_100 v100_0 hm; exact absurd hm (Nat.not_lt_zero _)
          | succ fu ih100 =>
            intro i4_100 H locs ls ri4_100 v100_0 hm hW hl
            refine x_iload hx hb hl 3 rfl dX0_cast_100 ?_
            refine x_iconst hx hb dX0_cast_102 ?_
            refine x_icmp_ge (tgt := 128) hx hb ri4_100 (by decide) dX0_cast_103 (by decide) (fun c9 => ?_) (fun c9 => ?_)
            · skip
              rw [eQ]
              exact x_vret hx hb hr hlk hW ⟨hF4, ⟨hp3.1.1, trivial⟩, trivial⟩ dX0_cast_128
            refine x_iload_n hx hb hl 2 rfl dX0_cast_106 rfl ?_
            refine x_if_eq (tgt := 128) hx hb rb dX0_cast_107 (by decide) (fun c10 => ?_) (fun c10 => ?_)
            · skip
              rw [eQ]
              exact x_vret hx hb hr hlk hW ⟨hF4, ⟨hp3.1.1, trivial⟩, trivial⟩ dX0_cast_128
            refine x_aload_n hx hb hl 0 rfl dX0_cast_110 rfl ?_
            refine x_aload_n hx hb hl 1 rfl dX0_cast_111 rfl ?_
            refine x_aload_n hx hb hl 0 rfl dX0_cast_112 rfl ?_
            refine x_get (j := 2) (v := .ref (h0 + 129)) hx hb hown hT hE hW cls_X0 (Or.inl (by decide)) (so_128 h0 g _) (by decide) rfl wq355 dX0_cast_113 ?_
            refine x_iload hx hb hl 3 rfl dX0_cast_116 ?_
            refine x_iald hx hb hE hW (Or.inl (by decide)) (sa_129 h0 g _) (by omega) (by decide) dX0_cast_118 ?_
            refine x_rd hW (fun x11 ex11 rx11 => ?_)
            have fx11 : x11 = (-1) := by rw [ex11, q7]
            refine x_gov (x_runV (As := [.ref (h0 + d), .int (xJ x11)]) hx hb hml hown hT hE hW hl.1 (Or.inl (by decide)) (so_128 h0 g _) rfl cf_X0_castOfLamp wq845 wq50 wq843 (c_X0_castOfLamp l D g T h0 s2 hW.2.1 d hd x11 rx11 q5 q6) ⟨rfl, rfl, ⟨by decide, by decide⟩, ⟨by decide, by decide⟩⟩ rfl rfl (Nat.le_of_ble_eq_true rfl) dX0_cast_119) hW (fun s13 H locs hp14 hW => ?_)
            obtain ⟨es13, hp14⟩ := hp14
            subst es13
            have ghp14 := hp14
            refine x_iinc (lv' := [(4, .int (xJ (i4_100 + 1))), (0, .ref (h0 + 128)), (1, .ref (h0 + d)), (3, .int (xJ b))]) hx hb hl 3 rfl dX0_cast_122 (by decide) rfl (fun ls hl => ?_)
            refine lv_goto (tgt := 100) hx hb dX0_cast_125 (by decide) ?_
            exact ih100 (i4_100 + 1) H locs ls (by omega) (by omega) (by omega) hW (lv_sub hl [1, 2, 3, 0] rfl)
        exact L100 ((4 - 0 : Int).toNat + 1) 0 H locs ls (by decide) (by omega) (Nat.lt_succ_self _) hW (lv_sub hl [1, 2, 4, 0] rfl)
      refine x_iload_n hx hb hl 2 rfl dX0_cast_16 rfl ?_
      refine x_if_eq (tgt := 97) hx hb ra dX0_cast_17 (by decide) (fun c15 => ?_) (fun c15 => ?_)
      · skip
        refine x_iconst hx hb dX0_cast_97 ?_
        refine lv_istore (lv' := [(4, .int (xJ 0)), (0, .ref (h0 + 128)), (1, .ref (h0 + d)), (2, .int (xJ a)), (3, .int (xJ b))]) hx hb dX0_cast_98 hl (by decide) rfl (fun ls hl => ?_)
        have L100 : ∀ (fu : Nat) (i4_100 : Int) (H : Heap) (locs : List Loc) (ls : Array Slot), (xR i4_100) → (0 ≤ i4_100) → (4 - i4_100).toNat < fu → xW D g h0 s H locs s2 → lv_has ls 6 [(0, .ref (h0 + 128)), (1, .ref (h0 + d)), (3, .int (xJ b)), (4, .int (xJ i4_100))] → W p l e { frames := 2, cells := 0, slots := 0, locals := 48 } s m args below meth c H locs 0 0 Q (F0 m 100 ls []) := by
          intro fu
          induction fu with
          | zero => intro i4_100 H locs ls ri4_100 v100_0 hm; exact absurd hm (Nat.not_lt_zero _)
          | succ fu ih100 =>
            intro i4_100 H locs ls ri4_100 v100_0 hm hW hl
            refine x_iload hx hb hl 3 rfl dX0_cast_100 ?_
            refine x_iconst hx hb dX0_cast_102 ?_
            refine x_icmp_ge (tgt := 128) hx hb ri4_100 (by decide) dX0_cast_103 (by decide) (fun c16 => ?_) (fun c16 => ?_)
            · skip
              rw [eQ]
              exact x_vret hx hb hr hlk hW ⟨hF4, ⟨hp3.1.1, trivial⟩, trivial⟩ dX0_cast_128
            refine x_iload_n hx hb hl 2 rfl dX0_cast_106 rfl ?_
            refine x_if_eq (tgt := 128) hx hb rb dX0_cast_107 (by decide) (fun c17 => ?_) (fun c17 => ?_)
            · skip
              rw [eQ]
              exact x_vret hx hb hr hlk hW ⟨hF4, ⟨hp3.1.1, trivial⟩, trivial⟩ dX0_cast_128
            refine x_aload_n hx hb hl 0 rfl dX0_cast_110 rfl ?_
            refine x_aload_n hx hb hl 1 rfl dX0_cast_111 rfl ?_
            refine x_aload_n hx hb hl 0 rfl dX0_cast_112 rfl ?_
            refine x_get (j := 2) (v := .ref (h0 + 129)) hx hb hown hT hE hW cls_X0 (Or.inl (by decide)) (so_128 h0 g _) (by decide) rfl wq355 dX0_cast_113 ?_
            refine x_iload hx hb hl 3 rfl dX0_cast_116 ?_
            refine x_iald hx hb hE hW (Or.inl (by decide)) (sa_129 h0 g _) (by omega) (by decide) dX0_cast_118 ?_
            refine x_rd hW (fun x18 ex18 rx18 => ?_)
            have fx18 : x18 = (-1) := by rw [ex18, q7]
            refine x_gov (x_runV (As := [.ref (h0 + d), .int (xJ x18)]) hx hb hml hown hT hE hW hl.1 (Or.inl (by decide)) (so_128 h0 g _) rfl cf_X0_castOfLamp wq845 wq50 wq843 (c_X0_castOfLamp l D g T h0 s2 hW.2.1 d hd x18 rx18 q5 q6) ⟨rfl, rfl, ⟨by decide, by decide⟩, ⟨by decide, by decide⟩⟩ rfl rfl (Nat.le_of_ble_eq_true rfl) dX0_cast_119) hW (fun s20 H locs hp21 hW => ?_)
            obtain ⟨es20, hp21⟩ := hp21
            subst es20
            have ghp21 := hp21
            refine x_iinc (lv' := [(4, .int (xJ (i4_100 + 1))), (0, .ref (h0 + 128)), (1, .ref (h0 + d)), (3, .int (xJ b))]) hx hb hl 3 rfl dX0_cast_122 (by decide) rfl (fun ls hl => ?_)
            refine lv_goto (tgt := 100) hx hb dX0_cast_125 (by decide) ?_
            exact ih100 (i4_100 + 1) H locs ls (by omega) (by omega) (by omega) hW (lv_sub hl [1, 2, 3, 0] rfl)
        exact L100 ((4 - 0 : Int).toNat + 1) 0 H locs ls (by decide) (by omega) (Nat.lt_succ_self _) hW (lv_sub hl [1, 2, 4, 0] rfl)
      refine x_aload_n hx hb hl 1 rfl dX0_cast_20 rfl ?_
      refine x_iload hx hb hl 4 rfl dX0_cast_21 ?_
      refine x_goi (x_runVN (As := [.int (xJ i4_10)]) hx hb hml hown hT hE hW hl.1 (Or.inl (by omega)) (so_day0 h0 g hd _) rfl cf_X2_hasJudge wq773 wq37 wn771 (c_X2_hasJudge l D g T h0 s2 hW.2.1 d hd i4_10 ri4_10 q5) ⟨rfl, rfl, ⟨by decide, by decide⟩, ⟨by decide, by decide⟩⟩ rfl rfl (Nat.le_of_ble_eq_true rfl) dX0_cast_23) hW (fun x22 s23 H locs rx22 hp24 hW => ?_)
      obtain ⟨es23, hp24⟩ := hp24
      subst es23
      have ghp24 := hp24
      refine x_if_eq (tgt := 91) hx hb rx22 dX0_cast_26 (by decide) (fun c25 => ?_) (fun c25 => False.elim (by omega))
      refine x_iinc (lv' := [(4, .int (xJ (i4_10 + 1))), (0, .ref (h0 + 128)), (1, .ref (h0 + d)), (2, .int (xJ a)), (3, .int (xJ b))]) hx hb hl 4 rfl dX0_cast_91 (by decide) rfl (fun ls hl => ?_)
      refine lv_goto (tgt := 10) hx hb dX0_cast_94 (by decide) ?_
      exact ih10 (i4_10 + 1) H locs ls (by omega) (by omega) (by omega) hW (lv_sub hl [1, 2, 3, 4, 0] rfl)
  exact L10 ((2 - 0 : Int).toNat + 1) 0 H locs ls (by decide) (by omega) (Nat.lt_succ_self _) hW (lv_sub hl [1, 2, 3, 4, 0] rfl)
set_option maxHeartbeats 4000000 in
set_option maxRecDepth 100000 in
theorem c_X0_castCloudless (l : Launch) (D : va_G) (g : xG) (T : Nat × Nat × Nat) (h0 : Nat) (s0 : xS) (hσ : xRR s0) (d : Nat) (hd : xDay d) (p0 : s0 (d + 1) = fun _ => (-1)) (p1 : s0 4 = fun _ => 0) (p2 : s0 129 = fun _ => (-1)) (p3 : s0 130 3 = 0) (p4 : s0 109 6 = 0) : Met l yX0_castCloudless (xws yX0_castCloudless cX0_castCloudless 2 none) { frames := 3, cells := 0, slots := 0, locals := 73 } (xP [.ref (h0 + 128), .ref (h0 + d)] D g T h0 s0) (xQv D g h0 (fun τ => xFr (fun k => k = 115 ∨ k = 130) s0 τ ∧ (((τ 130 3 = 0) ∧ True) ∧ (True)))) 0 0 (xA h0) := by
  refine x_met hσ (by decide) (Nat.le_of_ble_eq_true rfl) ?_
  intro p e s m args below meth c hx hb hr hml hown hT hlk hnm hE hW ls hl
  have hl : lv_has ls 2 [(0, .ref (h0 + 128)), (1, .ref (h0 + d))] := hl
  obtain ⟨Q, eQ⟩ : ∃ Q, Q = MQ below (xQv D g h0 (fun τ => xFr (fun k => k = 115 ∨ k = 130) s0 τ ∧ (((τ 130 3 = 0) ∧ True) ∧ (True)))) args s 0 0 (xA h0) := ⟨_, rfl⟩
  rw [← eQ]
  generalize hHe : ([] : List Loc) = locs at hW ⊢
  obtain ⟨H, eH⟩ : ∃ H, H = s.heap := ⟨_, rfl⟩
  rw [← eH] at hW ⊢
  have hF : xFr (fun k => k = 115 ∨ k = 130) s0 s0 := xFr.rf
  have hbd : (136 ≤ d ∧ d < 209) ∧ (d ≤ 146 ∨ 158 ≤ d) := by unfold xDay at hd; omega
  refine x_aload_n hx hb hl 0 rfl dX0_castCloudless_0 rfl ?_
  refine x_aload_n hx hb hl 1 rfl dX0_castCloudless_1 rfl ?_
  refine x_iconst hx hb dX0_castCloudless_2 ?_
  refine x_aload_n hx hb hl 0 rfl dX0_castCloudless_3 rfl ?_
  refine x_get (j := 1) (v := .ref (h0 + 109)) hx hb hown hT hE hW cls_X0 (Or.inl (by decide)) (so_128 h0 g _) (by decide) rfl wq354 dX0_castCloudless_4 ?_
  refine x_aload_n hx hb hl 1 rfl dX0_castCloudless_7 rfl ?_
  refine x_getN (j := 7) (v := .int (xJ (s0 d 7))) hx hb hown hT hE hW cls_X2 (Or.inl (by omega)) (so_day0 h0 g hd _) (by decide) rfl wn402 dX0_castCloudless_8 ?_
  refine x_rd hW (fun x1 ex1 rx1 => ?_)
  refine x_goi (x_runVN (As := [.int (xJ x1)]) hx hb hml hown hT hE hW hl.1 (Or.inl (by decide)) (so_109 h0 g _) rfl cf_X4_isNight wq819 wq45 wn817 (c_X4_isNight l D g T h0 s0 hW.2.1 x1 rx1 p4) ⟨rfl, rfl, ⟨by decide, by decide⟩, ⟨by decide, by decide⟩⟩ rfl rfl (Nat.le_of_ble_eq_true rfl) dX0_castCloudless_11) hW (fun x2 s3 H locs rx2 hp4 hW => ?_)
  obtain ⟨fs3, hp4⟩ := hp4
  have hF5 := hF.call fs3 (fun k h => by omega)
  have q6 : s3 (d + 1) = fun _ => (-1) := (fs3 _ (by omega)).trans p0
  have q7 : s3 4 = fun _ => 0 := (fs3 _ (by omega)).trans p1
  have q8 : s3 129 = fun _ => (-1) := (fs3 _ (by omega)).trans p2
  have q9 : s3 130 3 = 0 := (congrFun (fs3 _ (by omega)) _).trans p3
  have q10 : s3 109 6 = 0 := (congrFun (fs3 _ (by omega)) _).trans p4
  have ghp4 := hp4
  refine x_gov (x_runV (As := [.ref (h0 + d), .int (xJ 1), .int (xJ x2)]) hx hb hml hown hT hE hW hl.1 (Or.inl (by decide)) (so_128 h0 g _) rfl cf_X0_cast wq824 wq46 wq822 (c_X0_cast l D g T h0 s3 hW.2.1 d hd 1 (by decide) x2 rx2 q6 q7 q8 q9) ⟨rfl, rfl, ⟨by decide, by decide⟩, ⟨by decide, by decide⟩⟩ rfl rfl (Nat.le_of_ble_eq_true rfl) dX0_castCloudless_14) hW (fun s12 H locs hp13 hW => ?_)
  obtain ⟨fs12, hp13⟩ := hp13
  have hF14 := hF5.call fs12 (fun k h => by omega)
  have q15 : s12 (d + 1) = fun _ => (-1) := (fs12 _ (by omega)).trans q6
  have q16 : s12 4 = fun _ => 0 := (fs12 _ (by omega)).trans q7
  have q17 : s12 129 = fun _ => (-1) := (fs12 _ (by omega)).trans q8
  have q18 : s12 109 6 = 0 := (congrFun (fs12 _ (by omega)) _).trans q10
  have ghp13 := hp13.2
  rw [eQ]
  exact x_vret hx hb hr hlk hW ⟨hF14, ⟨hp13.1.1, trivial⟩, trivial⟩ dX0_castCloudless_17
set_option maxHeartbeats 4000000 in
set_option maxRecDepth 100000 in
theorem c_X0_shadowsAt (l : Launch) (D : va_G) (g : xG) (T : Nat × Nat × Nat) (h0 : Nat) (s0 : xS) (hσ : xRR s0) (d : Nat) (hd : xDay d) (x : Int) (rx : xR x) (p0 : s0 (d + 1) = fun _ => (-1)) (p1 : s0 4 = fun _ => 0) (p2 : s0 129 = fun _ => (-1)) (p3 : s0 130 3 = 0) (p4 : s0 109 6 = 0) (p5 : s0 131 = fun _ => 0) : Met l yX0_shadowsAt (xws yX0_shadowsAt cX0_shadowsAt 3 (some .int)) { frames := 4, cells := 0, slots := 0, locals := 94 } (xP [.ref (h0 + 128), .ref (h0 + d), .int (xJ x)] D g T h0 s0) (xQi D g h0 (fun r τ => xFr (fun k => k = 115 ∨ k = 130) s0 τ ∧ (((τ 130 3 = 0) ∧ True) ∧ (r = 0)))) 0 0 (xA h0) := by
  refine x_met hσ (by decide) (Nat.le_of_ble_eq_true rfl) ?_
  intro p e s m args below meth c hx hb hr hml hown hT hlk hnm hE hW ls hl
  have hl : lv_has ls 3 [(0, .ref (h0 + 128)), (1, .ref (h0 + d)), (2, .int (xJ x))] := hl
  obtain ⟨Q, eQ⟩ : ∃ Q, Q = MQ below (xQi D g h0 (fun r τ => xFr (fun k => k = 115 ∨ k = 130) s0 τ ∧ (((τ 130 3 = 0) ∧ True) ∧ (r = 0)))) args s 0 0 (xA h0) := ⟨_, rfl⟩
  rw [← eQ]
  generalize hHe : ([] : List Loc) = locs at hW ⊢
  obtain ⟨H, eH⟩ : ∃ H, H = s.heap := ⟨_, rfl⟩
  rw [← eH] at hW ⊢
  have hF : xFr (fun k => k = 115 ∨ k = 130) s0 s0 := xFr.rf
  have hbd : (136 ≤ d ∧ d < 209) ∧ (d ≤ 146 ∨ 158 ≤ d) := by unfold xDay at hd; omega
  refine x_aload_n hx hb hl 0 rfl dX0_shadowsAt_0 rfl ?_
  refine x_aload_n hx hb hl 1 rfl dX0_shadowsAt_1 rfl ?_
  refine x_gov (x_runV (As := [.ref (h0 + d)]) hx hb hml hown hT hE hW hl.1 (Or.inl (by decide)) (so_128 h0 g _) rfl cf_X0_castCloudless wq943 wq69 wq941 (c_X0_castCloudless l D g T h0 s0 hW.2.1 d hd p0 p1 p2 p3 p4) ⟨rfl, rfl, ⟨by decide, by decide⟩, ⟨by decide, by decide⟩⟩ rfl rfl (Nat.le_of_ble_eq_true rfl) dX0_shadowsAt_2) hW (fun s2 H locs hp3 hW => ?_)
  obtain ⟨fs2, hp3⟩ := hp3
  have hF4 := hF.call fs2 (fun k h => by omega)
  have q5 : s2 (d + 1) = fun _ => (-1) := (fs2 _ (by omega)).trans p0
  have q6 : s2 4 = fun _ => 0 := (fs2 _ (by omega)).trans p1
  have q7 : s2 129 = fun _ => (-1) := (fs2 _ (by omega)).trans p2
  have q8 : s2 109 6 = 0 := (congrFun (fs2 _ (by omega)) _).trans p4
  have q9 : s2 131 = fun _ => 0 := (fs2 _ (by omega)).trans p5
  have ghp3 := hp3.2
  refine x_aload_n hx hb hl 0 rfl dX0_shadowsAt_5 rfl ?_
  refine x_get (j := 3) (v := .ref (h0 + 130)) hx hb hown hT hE hW cls_X0 (Or.inl (by decide)) (so_128 h0 g _) (by decide) rfl wq357 dX0_shadowsAt_6 ?_
  refine x_iload_n hx hb hl 2 rfl dX0_shadowsAt_9 rfl ?_
  refine x_goi (x_runVN (As := [.int (xJ x)]) hx hb hml hown hT hE hW hl.1 (Or.inl (by decide)) (so_130 h0 g _) rfl cf_X7_layersAt wq899 wq61 wn897 (c_X7_layersAt l D g T h0 s2 hW.2.1 x rx q9) ⟨rfl, rfl, ⟨by decide, by decide⟩, ⟨by decide, by decide⟩⟩ rfl rfl (Nat.le_of_ble_eq_true rfl) dX0_shadowsAt_10) hW (fun x10 s11 H locs rx10 hp12 hW => ?_)
  obtain ⟨es11, hp12⟩ := hp12
  subst es11
  have ghp12 := hp12
  rw [eQ]
  exact x_iret hx hb hr hlk hW rx10 ⟨hF4, ⟨hp3.1.1, trivial⟩, by omega⟩ dX0_shadowsAt_13
set_option maxHeartbeats 4000000 in
set_option maxRecDepth 100000 in
theorem c_X0_spotsInLampShadows (l : Launch) (D : va_G) (g : xG) (T : Nat × Nat × Nat) (h0 : Nat) (s0 : xS) (hσ : xRR s0) (d : Nat) (hd : xDay d) (x : Int) (rx : xR x) (p0 : s0 (d + 1) = fun _ => (-1)) (p1 : s0 4 = fun _ => 0) (p2 : s0 129 = fun _ => (-1)) (p3 : s0 130 3 = 0) : Met l yX0_spotsInLampShadows (xws yX0_spotsInLampShadows cX0_spotsInLampShadows 3 (some .int)) { frames := 3, cells := 0, slots := 0, locals := 73 } (xP [.ref (h0 + 128), .ref (h0 + d), .int (xJ x)] D g T h0 s0) (xQi D g h0 (fun r τ => xFr (fun k => k = 130) s0 τ ∧ (((τ 130 3 = 0) ∧ True) ∧ (r = 0)))) 0 0 (xA h0) := by
  refine x_met hσ (by decide) (Nat.le_of_ble_eq_true rfl) ?_
  intro p e s m args below meth c hx hb hr hml hown hT hlk hnm hE hW ls hl
  have hl : lv_has ls 3 [(0, .ref (h0 + 128)), (1, .ref (h0 + d)), (2, .int (xJ x))] := hl
  obtain ⟨Q, eQ⟩ : ∃ Q, Q = MQ below (xQi D g h0 (fun r τ => xFr (fun k => k = 130) s0 τ ∧ (((τ 130 3 = 0) ∧ True) ∧ (r = 0)))) args s 0 0 (xA h0) := ⟨_, rfl⟩
  rw [← eQ]
  generalize hHe : ([] : List Loc) = locs at hW ⊢
  obtain ⟨H, eH⟩ : ∃ H, H = s.heap := ⟨_, rfl⟩
  rw [← eH] at hW ⊢
  have hF : xFr (fun k => k = 130) s0 s0 := xFr.rf
  have hbd : (136 ≤ d ∧ d < 209) ∧ (d ≤ 146 ∨ 158 ≤ d) := by unfold xDay at hd; omega
  refine x_aload_n hx hb hl 0 rfl dX0_spotsInLampShadows_0 rfl ?_
  refine x_aload_n hx hb hl 1 rfl dX0_spotsInLampShadows_1 rfl ?_
  refine x_iconst hx hb dX0_spotsInLampShadows_2 ?_
  refine x_iconst hx hb dX0_spotsInLampShadows_3 ?_
  refine x_gov (x_runV (As := [.ref (h0 + d), .int (xJ 0), .int (xJ 1)]) hx hb hml hown hT hE hW hl.1 (Or.inl (by decide)) (so_128 h0 g _) rfl cf_X0_cast wq824 wq46 wq822 (c_X0_cast l D g T h0 s0 hW.2.1 d hd 0 (by decide) 1 (by decide) p0 p1 p2 p3) ⟨rfl, rfl, ⟨by decide, by decide⟩, ⟨by decide, by decide⟩⟩ rfl rfl (Nat.le_of_ble_eq_true rfl) dX0_spotsInLampShadows_4) hW (fun s2 H locs hp3 hW => ?_)
  obtain ⟨fs2, hp3⟩ := hp3
  have hF4 := hF.call fs2 (fun k h => by omega)
  have q5 : s2 (d + 1) = fun _ => (-1) := (fs2 _ (by omega)).trans p0
  have q6 : s2 4 = fun _ => 0 := (fs2 _ (by omega)).trans p1
  have q7 : s2 129 = fun _ => (-1) := (fs2 _ (by omega)).trans p2
  have ghp3 := hp3.2
  refine x_aload_n hx hb hl 0 rfl dX0_spotsInLampShadows_7 rfl ?_
  refine x_aload_n hx hb hl 1 rfl dX0_spotsInLampShadows_8 rfl ?_
  refine x_iload_n hx hb hl 2 rfl dX0_spotsInLampShadows_9 rfl ?_
  refine x_gov (x_runV (As := [.ref (h0 + d), .int (xJ x)]) hx hb hml hown hT hE hW hl.1 (Or.inl (by decide)) (so_128 h0 g _) rfl cf_X0_castOfLamp wq845 wq50 wq843 (c_X0_castOfLamp l D g T h0 s2 hW.2.1 d hd x rx q5 q6) ⟨rfl, rfl, ⟨by decide, by decide⟩, ⟨by decide, by decide⟩⟩ rfl rfl (Nat.le_of_ble_eq_true rfl) dX0_spotsInLampShadows_10) hW (fun s9 H locs hp10 hW => ?_)
  obtain ⟨es9, hp10⟩ := hp10
  subst es9
  have ghp10 := hp10
  refine x_aload_n hx hb hl 0 rfl dX0_spotsInLampShadows_13 rfl ?_
  refine x_get (j := 3) (v := .ref (h0 + 130)) hx hb hown hT hE hW cls_X0 (Or.inl (by decide)) (so_128 h0 g _) (by decide) rfl wq357 dX0_spotsInLampShadows_14 ?_
  refine x_getN (j := 3) (v := .int (xJ (s2 130 3))) hx hb hown hT hE hW cls_X7 (Or.inl (by decide)) (so_130 h0 g _) (by decide) rfl wn340 dX0_spotsInLampShadows_17 ?_
  refine x_rd hW (fun x11 ex11 rx11 => ?_)
  have fx11 : x11 = 0 := by rw [ex11, hp3.1.1]
  rw [eQ]
  exact x_iret hx hb hr hlk hW rx11 ⟨hF4, ⟨hp3.1.1, trivial⟩, by omega⟩ dX0_spotsInLampShadows_20
set_option maxHeartbeats 4000000 in
set_option maxRecDepth 100000 in
theorem c_X0_lineUp (l : Launch) (D : va_G) (g : xG) (T : Nat × Nat × Nat) (h0 : Nat) (s0 : xS) (hσ : xRR s0) (d : Nat) (hd : xDay d) (a : Int) (ra : xR a) (p0 : s0 (d + 6) = fun _ => (-1)) : Met l yX0_lineUp (xws yX0_lineUp cX0_lineUp 7 (some .int)) { frames := 2, cells := 0, slots := 0, locals := 42 } (xP [.ref (h0 + 128), .ref (h0 + d), .int (xJ a)] D g T h0 s0) (xQi D g h0 (fun r τ => s0 = τ ∧ (r = 0))) 0 0 (xA h0) := by
  refine x_met hσ (by decide) (Nat.le_of_ble_eq_true rfl) ?_
  intro p e s m args below meth c hx hb hr hml hown hT hlk hnm hE hW ls hl
  have hl : lv_has ls 7 [(0, .ref (h0 + 128)), (1, .ref (h0 + d)), (2, .int (xJ a))] := hl
  obtain ⟨Q, eQ⟩ : ∃ Q, Q = MQ below (xQi D g h0 (fun r τ => s0 = τ ∧ (r = 0))) args s 0 0 (xA h0) := ⟨_, rfl⟩
  rw [← eQ]
  generalize hHe : ([] : List Loc) = locs at hW ⊢
  obtain ⟨H, eH⟩ : ∃ H, H = s.heap := ⟨_, rfl⟩
  rw [← eH] at hW ⊢
  have hbd : (136 ≤ d ∧ d < 209) ∧ (d ≤ 146 ∨ 158 ≤ d) := by unfold xDay at hd; omega
  refine x_iconst hx hb dX0_lineUp_0 ?_
  refine lv_istore_n (lv' := [(3, .int (xJ 0)), (0, .ref (h0 + 128)), (1, .ref (h0 + d)), (2, .int (xJ a))]) hx hb dX0_lineUp_1 rfl hl (by decide) rfl (fun ls hl => ?_)
  refine x_iconst hx hb dX0_lineUp_2 ?_
  refine lv_istore (lv' := [(4, .int (xJ 0)), (3, .int (xJ 0)), (0, .ref (h0 + 128)), (1, .ref (h0 + d)), (2, .int (xJ a))]) hx hb dX0_lineUp_3 hl (by decide) rfl (fun ls hl => ?_)
  have L5 : ∀ (fu : Nat) (i4_5 : Int) (H : Heap) (locs : List Loc) (ls : Array Slot), (xR i4_5) → (0 ≤ i4_5) → (0 = 0) → (10 - i4_5).toNat < fu → xW D g h0 s H locs s0 → lv_has ls 7 [(1, .ref (h0 + d)), (3, .int (xJ 0)), (4, .int (xJ i4_5))] → W p l e { frames := 2, cells := 0, slots := 0, locals := 42 } s m args below meth c H locs 0 0 Q (F0 m 5 ls []) := by
    intro fu
    induction fu with
    | zero => intro i4_5 H locs ls ri4_5 v5_0 v5_1 hm; exact absurd hm (Nat.not_lt_zero _)
    | succ fu ih5 =>
      intro i4_5 H locs ls ri4_5 v5_0 v5_1 hm hW hl
      refine x_iload hx hb hl 2 rfl dX0_lineUp_5 ?_
      refine x_bipush hx hb dX0_lineUp_7 (by decide) ?_
      refine x_icmp_ge (tgt := 144) hx hb ri4_5 (by decide) dX0_lineUp_9 (by decide) (fun c1 => ?_) (fun c1 => ?_)
      · skip
        refine x_iload_n hx hb hl 1 rfl dX0_lineUp_144 rfl ?_
        rw [eQ]
        exact x_iret hx hb hr hlk hW (by decide) ⟨rfl, by omega⟩ dX0_lineUp_145
      refine x_aload_n hx hb hl 0 rfl dX0_lineUp_12 rfl ?_
      refine x_iload hx hb hl 2 rfl dX0_lineUp_13 ?_
      refine x_goi (x_runVN (As := [.int (xJ i4_5)]) hx hb hml hown hT hE hW hl.1 (Or.inl (by omega)) (so_day0 h0 g hd _) rfl cf_X2_mustServe wq858 wq52 wn856 (c_X2_mustServe l D g T h0 s0 hW.2.1 d hd i4_5 ri4_5 p0) ⟨rfl, rfl, ⟨by decide, by decide⟩, ⟨by decide, by decide⟩⟩ rfl rfl (Nat.le_of_ble_eq_true rfl) dX0_lineUp_15) hW (fun x2 s3 H locs rx2 hp4 hW => ?_)
      obtain ⟨es3, hp4⟩ := hp4
      subst es3
      have ghp4 := hp4
      refine x_if_ne (tgt := 24) hx hb rx2 dX0_lineUp_18 (by decide) (fun c5 => False.elim (by omega)) (fun c5 => ?_)
      refine lv_goto (tgt := 138) hx hb dX0_lineUp_21 (by decide) ?_
      refine x_iinc (lv' := [(4, .int (xJ (i4_5 + 1))), (1, .ref (h0 + d)), (3, .int (xJ 0))]) hx hb hl 2 rfl dX0_lineUp_138 (by decide) rfl (fun ls hl => ?_)
      refine lv_goto (tgt := 5) hx hb dX0_lineUp_141 (by decide) ?_
      exact ih5 (i4_5 + 1) H locs ls (by omega) (by omega) (by omega) (by omega) hW (lv_sub hl [1, 2, 0] rfl)
  exact L5 ((10 - 0 : Int).toNat + 1) 0 H locs ls (by decide) (by omega) (by omega) (Nat.lt_succ_self _) hW (lv_sub hl [3, 1, 0] rfl)
set_option maxHeartbeats 4000000 in
set_option maxRecDepth 100000 in
theorem c_X0_felonsGo (l : Launch) (D : va_G) (g : xG) (T : Nat × Nat × Nat) (h0 : Nat) (s0 : xS) (hσ : xRR s0) (d : Nat) (hd : xDay d) (a : Int) (ra : xR a) (b : Int) (rb : xR b) (ha0 : a = 0) : Met l yX0_felonsGo (xws yX0_felonsGo cX0_felonsGo 8 none) { frames := 0, cells := 0, slots := 0, locals := 0 } (xP [.ref (h0 + 128), .ref (h0 + d), .int (xJ a), .int (xJ b)] D g T h0 s0) (xQv D g h0 (fun τ => s0 = τ ∧ (True))) 0 0 (xA h0) := by
  refine x_met hσ (by decide) (Nat.le_of_ble_eq_true rfl) ?_
  intro p e s m args below meth c hx hb hr hml hown hT hlk hnm hE hW ls hl
  have hl : lv_has ls 8 [(0, .ref (h0 + 128)), (1, .ref (h0 + d)), (2, .int (xJ a)), (3, .int (xJ b))] := hl
  obtain ⟨Q, eQ⟩ : ∃ Q, Q = MQ below (xQv D g h0 (fun τ => s0 = τ ∧ (True))) args s 0 0 (xA h0) := ⟨_, rfl⟩
  rw [← eQ]
  generalize hHe : ([] : List Loc) = locs at hW ⊢
  obtain ⟨H, eH⟩ : ∃ H, H = s.heap := ⟨_, rfl⟩
  rw [← eH] at hW ⊢
  have hbd : (136 ≤ d ∧ d < 209) ∧ (d ≤ 146 ∨ 158 ≤ d) := by unfold xDay at hd; omega
  refine x_iconst hx hb dX0_felonsGo_0 ?_
  refine lv_istore (lv' := [(4, .int (xJ 0)), (0, .ref (h0 + 128)), (1, .ref (h0 + d)), (2, .int (xJ a)), (3, .int (xJ b))]) hx hb dX0_felonsGo_1 hl (by decide) rfl (fun ls hl => ?_)
  refine x_iload hx hb hl 0 rfl dX0_felonsGo_3 ?_
  refine x_iload_n hx hb hl 3 rfl dX0_felonsGo_5 rfl ?_
  refine x_icmp_ge (tgt := 209) hx hb (by decide) ra dX0_felonsGo_6 (by decide) (fun c1 => ?_) (fun c1 => False.elim (by omega))
  rw [eQ]
  exact x_vret hx hb hr hlk hW ⟨rfl, trivial⟩ dX0_felonsGo_209
set_option maxHeartbeats 4000000 in
set_option maxRecDepth 100000 in
theorem c_X0_walkOn (l : Launch) (D : va_G) (g : xG) (T : Nat × Nat × Nat) (h0 : Nat) (s0 : xS) (hσ : xRR s0) (d : Nat) (hd : xDay d) (p0 : s0 (d + 1) = fun _ => (-1)) (p1 : s0 4 = fun _ => 0) (p2 : s0 129 = fun _ => (-1)) (p3 : s0 130 3 = 0) (p4 : 0 ≤ s0 d 7 ∧ s0 d 7 ≤ 9999) : Met l yX0_walkOn (xws yX0_walkOn cX0_walkOn 2 (some .boolean)) { frames := 3, cells := 0, slots := 0, locals := 73 } (xP [.ref (h0 + 128), .ref (h0 + d)] D g T h0 s0) (xQi D g h0 (fun r τ => xFr (fun k => k = 130 ∨ k = d) s0 τ ∧ (((τ 130 3 = 0) ∧ (0 ≤ τ d 7 ∧ τ d 7 ≤ 9999) ∧ True) ∧ (r = 0 ∨ r = 1)))) 0 0 (xA h0) := by
  refine x_met hσ (by decide) (Nat.le_of_ble_eq_true rfl) ?_
  intro p e s m args below meth c hx hb hr hml hown hT hlk hnm hE hW ls hl
  have hl : lv_has ls 2 [(0, .ref (h0 + 128)), (1, .ref (h0 + d))] := hl
  obtain ⟨Q, eQ⟩ : ∃ Q, Q = MQ below (xQi D g h0 (fun r τ => xFr (fun k => k = 130 ∨ k = d) s0 τ ∧ (((τ 130 3 = 0) ∧ (0 ≤ τ d 7 ∧ τ d 7 ≤ 9999) ∧ True) ∧ (r = 0 ∨ r = 1)))) args s 0 0 (xA h0) := ⟨_, rfl⟩
  rw [← eQ]
  generalize hHe : ([] : List Loc) = locs at hW ⊢
  obtain ⟨H, eH⟩ : ∃ H, H = s.heap := ⟨_, rfl⟩
  rw [← eH] at hW ⊢
  have hF : xFr (fun k => k = 130 ∨ k = d) s0 s0 := xFr.rf
  have hbd : (136 ≤ d ∧ d < 209) ∧ (d ≤ 146 ∨ 158 ≤ d) := by unfold xDay at hd; omega
  refine x_aload_n hx hb hl 1 rfl dX0_walkOn_0 rfl ?_
  refine x_getN (j := 7) (v := .int (xJ (s0 d 7))) hx hb hown hT hE hW cls_X2 (Or.inl (by omega)) (so_day0 h0 g hd _) (by decide) rfl wn402 dX0_walkOn_1 ?_
  refine x_rd hW (fun x1 ex1 rx1 => ?_)
  have qx1 : 0 ≤ x1 ∧ x1 ≤ 9999 := by rw [ex1]; exact p4
  have q2 : s0 d 7 = x1 := ex1.symm
  refine x_sipush hx hb dX0_walkOn_4 (by decide) ?_
  refine x_icmp_lt (tgt := 12) hx hb rx1 (by decide) dX0_walkOn_7 (by decide) (fun c3 => ?_) (fun c3 => ?_)
  · skip
    refine x_aload_n hx hb hl 0 rfl dX0_walkOn_12 rfl ?_
    refine x_aload_n hx hb hl 1 rfl dX0_walkOn_13 rfl ?_
    refine x_gov (x_runV (As := [.ref (h0 + d)]) hx hb hml hown hT hE hW hl.1 (Or.inl (by decide)) (so_128 h0 g _) rfl cf_X0_judgesStep wq769 wq36 wq767 (c_X0_judgesStep l D g T h0 s0 hW.2.1 d hd p0) ⟨rfl, rfl, ⟨by decide, by decide⟩, ⟨by decide, by decide⟩⟩ rfl rfl (Nat.le_of_ble_eq_true rfl) dX0_walkOn_14) hW (fun s5 H locs hp6 hW => ?_)
    obtain ⟨es5, hp6⟩ := hp6
    subst es5
    have ghp6 := hp6
    refine x_aload_n hx hb hl 0 rfl dX0_walkOn_17 rfl ?_
    refine x_aload_n hx hb hl 1 rfl dX0_walkOn_18 rfl ?_
    refine x_iconst hx hb dX0_walkOn_19 ?_
    refine x_iconst hx hb dX0_walkOn_20 ?_
    refine x_gov (x_runV (As := [.ref (h0 + d), .int (xJ 1), .int (xJ 0)]) hx hb hml hown hT hE hW hl.1 (Or.inl (by decide)) (so_128 h0 g _) rfl cf_X0_cast wq824 wq46 wq822 (c_X0_cast l D g T h0 s0 hW.2.1 d hd 1 (by decide) 0 (by decide) p0 p1 p2 p3) ⟨rfl, rfl, ⟨by decide, by decide⟩, ⟨by decide, by decide⟩⟩ rfl rfl (Nat.le_of_ble_eq_true rfl) dX0_walkOn_21) hW (fun s8 H locs hp9 hW => ?_)
    obtain ⟨fs8, hp9⟩ := hp9
    have hF10 := hF.call fs8 (fun k h => by omega)
    have q11 : s8 (d + 1) = fun _ => (-1) := (fs8 _ (by omega)).trans p0
    have q12 : s8 4 = fun _ => 0 := (fs8 _ (by omega)).trans p1
    have q13 : s8 129 = fun _ => (-1) := (fs8 _ (by omega)).trans p2
    have q14 : 0 ≤ s8 d 7 ∧ s8 d 7 ≤ 9999 := by rw [fs8 d (by omega)]; exact p4
    have q15 : s8 d 7 = x1 := (congrFun (fs8 _ (by omega)) _).trans q2
    have ghp9 := hp9.2
    refine x_aload_n hx hb hl 1 rfl dX0_walkOn_24 rfl ?_
    refine lv_dup hx hb dX0_walkOn_25 rfl ?_
    refine x_getN (j := 7) (v := .int (xJ (s8 d 7))) hx hb hown hT hE hW cls_X2 (Or.inl (by omega)) (so_day0 h0 g hd _) (by decide) rfl wn402 dX0_walkOn_26 ?_
    refine x_rd hW (fun x16 ex16 rx16 => ?_)
    have fx16 : x16 = x1 := by rw [ex16, q15]
    have qx16 : 0 ≤ x16 ∧ x16 ≤ 9999 := by rw [ex16]; exact q14
    refine x_iconst hx hb dX0_walkOn_29 ?_
    refine x_iadd hx hb dX0_walkOn_30 ?_
    refine x_putN (j := 7) hx hb hown hT hE hW cls_X2 (by omega) (fun σ => so_day0 h0 g hd σ) (by decide) (st_X2_7 h0 s8 d (x16 + 1)) (ln_X2_7 h0 _ _) wn402 rfl rfl rfl (by omega) dX0_walkOn_31 (fun H locs s17 es17 hW => ?_)
    have q18 : s17 (d + 1) = fun _ => (-1) := by rw [es17, xU_k _ _ _ (by omega)]; exact q11
    have q19 : s17 4 = fun _ => 0 := by rw [es17, xU_k _ _ _ (by omega)]; exact q12
    have q20 : s17 129 = fun _ => (-1) := by rw [es17, xU_k _ _ _ (by omega)]; exact q13
    have q21 : 0 ≤ s17 d 7 ∧ s17 d 7 ≤ 9999 := by rw [es17, xU_s]; omega
    have q22 : s17 d 7 = (x16 + 1) := by rw [es17, xU_s]
    have q23 : s17 130 3 = 0 := by rw [es17, xU_k _ _ _ (by omega)]; exact hp9.1.1
    have hF24 := hF10.put es17 (by omega)
    refine x_iconst hx hb dX0_walkOn_34 ?_
    rw [eQ]
    exact x_zret hx hb hr hlk hW (by omega) ⟨hF24, ⟨q23, q21, trivial⟩, by omega⟩ dX0_walkOn_35
  refine x_iconst hx hb dX0_walkOn_10 ?_
  rw [eQ]
  exact x_zret hx hb hr hlk hW (by omega) ⟨hF, ⟨p3, p4, trivial⟩, by omega⟩ dX0_walkOn_11
set_option maxHeartbeats 4000000 in
set_option maxRecDepth 100000 in
theorem c_X0_goOn (l : Launch) (D : va_G) (g : xG) (T : Nat × Nat × Nat) (h0 : Nat) (s0 : xS) (hσ : xRR s0) (d : Nat) (hd : xDay d) (n : Int) (rn : xR n) (a : Int) (ra : xR a) (z9 : Int) (z10 : Int) (z11 : Int) (p0 : s0 (d + 1) = fun _ => (-1)) (p1 : s0 (d + 6) = fun _ => (-1)) (p2 : s0 (d + 7) = fun _ => 0) (p3 : 0 ≤ s0 d 7 ∧ s0 d 7 ≤ 9999) (p4 : 0 ≤ s0 d 8 ∧ s0 d 8 ≤ 65535) (p5 : s0 4 = fun _ => 0) (p6 : s0 129 = fun _ => (-1)) (p7 : s0 130 3 = 0) (p8 : s0 109 6 = 0) (p9 : s0 d 9 = z9) (p10 : s0 d 10 = z10) (p11 : s0 d 11 = z11) : Met l yX0_goOn (xws yX0_goOn cX0_goOn 8 (some .int)) { frames := 3, cells := 0, slots := 0, locals := 73 } (xP [.ref (h0 + 128), .ref (h0 + d), .int (xJ n), .int (xJ a)] D g T h0 s0) (xQi D g h0 (fun r τ => xFr (fun k => k = 115 ∨ k = 130 ∨ k = d) s0 τ ∧ (((0 ≤ τ d 7 ∧ τ d 7 ≤ 9999) ∧ (0 ≤ τ d 8 ∧ τ d 8 ≤ 65535) ∧ (τ 130 3 = 0) ∧ (τ d 9 = z9) ∧ (τ d 10 = z10) ∧ (τ d 11 = z11) ∧ True) ∧ (r = 0)))) 0 0 (xA h0) := by
  refine x_met hσ (by decide) (Nat.le_of_ble_eq_true rfl) ?_
  intro p e s m args below meth c hx hb hr hml hown hT hlk hnm hE hW ls hl
  have hl : lv_has ls 8 [(0, .ref (h0 + 128)), (1, .ref (h0 + d)), (2, .int (xJ n)), (3, .int (xJ a))] := hl
  obtain ⟨Q, eQ⟩ : ∃ Q, Q = MQ below (xQi D g h0 (fun r τ => xFr (fun k => k = 115 ∨ k = 130 ∨ k = d) s0 τ ∧ (((0 ≤ τ d 7 ∧ τ d 7 ≤ 9999) ∧ (0 ≤ τ d 8 ∧ τ d 8 ≤ 65535) ∧ (τ 130 3 = 0) ∧ (τ d 9 = z9) ∧ (τ d 10 = z10) ∧ (τ d 11 = z11) ∧ True) ∧ (r = 0)))) args s 0 0 (xA h0) := ⟨_, rfl⟩
  rw [← eQ]
  generalize hHe : ([] : List Loc) = locs at hW ⊢
  obtain ⟨H, eH⟩ : ∃ H, H = s.heap := ⟨_, rfl⟩
  rw [← eH] at hW ⊢
  have hF : xFr (fun k => k = 115 ∨ k = 130 ∨ k = d) s0 s0 := xFr.rf
  have hbd : (136 ≤ d ∧ d < 209) ∧ (d ≤ 146 ∨ 158 ≤ d) := by unfold xDay at hd; omega
  refine x_aload_n hx hb hl 1 rfl dX0_goOn_0 rfl ?_
  refine x_goi (x_runVN (As := []) hx hb hml hown hT hE hW hl.1 (Or.inl (by omega)) (so_day0 h0 g hd _) rfl cf_X2_owedByAll wq765 wq35 wn763 (c_X2_owedByAll l D g T h0 s0 hW.2.1 d hd p2) ⟨rfl, rfl, ⟨by decide, by decide⟩, ⟨by decide, by decide⟩⟩ rfl rfl (Nat.le_of_ble_eq_true rfl) dX0_goOn_1) hW (fun x1 s2 H locs rx1 hp3 hW => ?_)
  obtain ⟨es2, hp3⟩ := hp3
  subst es2
  have ghp3 := hp3
  refine lv_istore (lv' := [(4, .int (xJ x1)), (0, .ref (h0 + 128)), (1, .ref (h0 + d)), (2, .int (xJ n)), (3, .int (xJ a))]) hx hb dX0_goOn_4 hl (by decide) rfl (fun ls hl => ?_)
  refine x_iconst hx hb dX0_goOn_6 ?_
  refine lv_istore (lv' := [(5, .int (xJ 0)), (4, .int (xJ x1)), (0, .ref (h0 + 128)), (1, .ref (h0 + d)), (2, .int (xJ n)), (3, .int (xJ a))]) hx hb dX0_goOn_7 hl (by decide) rfl (fun ls hl => ?_)
  have L9 : ∀ (fu : Nat) (i5_9 : Int) (s_9 : xS) (H : Heap) (locs : List Loc) (ls : Array Slot), (xR i5_9) → (xFr (fun k => k = 115 ∨ k = 130 ∨ k = d) s0 s_9) → (s_9 (d + 1) = fun _ => (-1)) → (s_9 (d + 6) = fun _ => (-1)) → (s_9 (d + 7) = fun _ => 0) → (0 ≤ s_9 d 7 ∧ s_9 d 7 ≤ 9999) → (0 ≤ s_9 d 8 ∧ s_9 d 8 ≤ 65535) → (s_9 4 = fun _ => 0) → (s_9 129 = fun _ => (-1)) → (s_9 130 3 = 0) → (s_9 109 6 = 0) → (s_9 d 9 = z9) → (s_9 d 10 = z10) → (s_9 d 11 = z11) → (0 ≤ i5_9) → (x1 = 0) → (n - i5_9).toNat < fu → xW D g h0 s H locs s_9 → lv_has ls 8 [(0, .ref (h0 + 128)), (1, .ref (h0 + d)), (2, .int (xJ n)), (3, .int (xJ a)), (4, .int (xJ x1)), (5, .int (xJ i5_9))] → W p l e { frames := 3, cells := 0, slots := 0, locals := 73 } s m args below meth c H locs 0 0 Q (F0 m 9 ls []) := by
    intro fu
    induction fu with
    | zero => intro i5_9 s_9 H locs ls ri5_9 hF_9 q9_0 q9_1 q9_2 q9_3 q9_4 q9_5 q9_6 q9_7 q9_8 q9_9 q9_10 q9_11 v9_0 v9_1 hm; exact absurd hm (Nat.not_lt_zero _)
    | succ fu ih9 =>
      intro i5_9 s_9 H locs ls ri5_9 hF_9 q9_0 q9_1 q9_2 q9_3 q9_4 q9_5 q9_6 q9_7 q9_8 q9_9 q9_10 q9_11 v9_0 v9_1 hm hW hl
      refine x_iload hx hb hl 5 rfl dX0_goOn_9 ?_
      refine x_iload_n hx hb hl 2 rfl dX0_goOn_11 rfl ?_
      have J140 : ∀ (ls : Array Slot), lv_has ls 8 [(1, .ref (h0 + d)), (4, .int (xJ x1))] → W p l e { frames := 3, cells := 0, slots := 0, locals := 73 } s m args below meth c H locs 0 0 Q (F0 m 140 ls []) := by
        intro ls   hl
        refine x_iload hx hb hl 1 rfl dX0_goOn_140 ?_
        refine x_aload_n hx hb hl 0 rfl dX0_goOn_142 rfl ?_
        refine x_goi (x_runVN (As := []) hx hb hml hown hT hE hW hl.1 (Or.inl (by omega)) (so_day0 h0 g hd _) rfl cf_X2_owedByAll wq765 wq35 wn763 (c_X2_owedByAll l D g T h0 s_9 hW.2.1 d hd q9_2) ⟨rfl, rfl, ⟨by decide, by decide⟩, ⟨by decide, by decide⟩⟩ rfl rfl (Nat.le_of_ble_eq_true rfl) dX0_goOn_143) hW (fun x4 s5 H locs rx4 hp6 hW => ?_)
        obtain ⟨es5, hp6⟩ := hp6
        subst es5
        have ghp6 := hp6
        refine x_isub hx hb dX0_goOn_146 ?_
        rw [eQ]
        exact x_iret hx hb hr hlk hW (by omega) ⟨hF_9, ⟨q9_3, q9_4, q9_7, q9_9, q9_10, q9_11, trivial⟩, by omega⟩ dX0_goOn_147
      refine x_icmp_ge (tgt := 140) hx hb ri5_9 rn dX0_goOn_12 (by decide) (fun c7 => ?_) (fun c7 => ?_)
      · skip
        exact J140 ls   (lv_sub hl [1, 4] rfl)
      refine x_aload_n hx hb hl 1 rfl dX0_goOn_15 rfl ?_
      refine x_getN (j := 7) (v := .int (xJ (s_9 d 7))) hx hb hown hT hE hW cls_X2 (Or.inl (by omega)) (so_day0 h0 g hd _) (by decide) rfl wn402 dX0_goOn_16 ?_
      refine x_rd hW (fun x8 ex8 rx8 => ?_)
      have qx8 : 0 ≤ x8 ∧ x8 ≤ 9999 := by rw [ex8]; exact q9_3
      have q9 : s_9 d 7 = x8 := ex8.symm
      refine x_sipush hx hb dX0_goOn_19 (by decide) ?_
      refine x_icmp_ge (tgt := 140) hx hb rx8 (by decide) dX0_goOn_22 (by decide) (fun c10 => ?_) (fun c10 => ?_)
      · skip
        exact J140 ls   (lv_sub hl [1, 4] rfl)
      refine x_aload_n hx hb hl 0 rfl dX0_goOn_25 rfl ?_
      refine x_aload_n hx hb hl 1 rfl dX0_goOn_26 rfl ?_
      refine x_gov (x_runV (As := [.ref (h0 + d)]) hx hb hml hown hT hE hW hl.1 (Or.inl (by decide)) (so_128 h0 g _) rfl cf_X0_judgesStep wq769 wq36 wq767 (c_X0_judgesStep l D g T h0 s_9 hW.2.1 d hd q9_0) ⟨rfl, rfl, ⟨by decide, by decide⟩, ⟨by decide, by decide⟩⟩ rfl rfl (Nat.le_of_ble_eq_true rfl) dX0_goOn_27) hW (fun s12 H locs hp13 hW => ?_)
      obtain ⟨es12, hp13⟩ := hp13
      subst es12
      have ghp13 := hp13
      refine x_aload_n hx hb hl 0 rfl dX0_goOn_30 rfl ?_
      refine x_get (j := 1) (v := .ref (h0 + 109)) hx hb hown hT hE hW cls_X0 (Or.inl (by decide)) (so_128 h0 g _) (by decide) rfl wq354 dX0_goOn_31 ?_
      refine x_aload_n hx hb hl 1 rfl dX0_goOn_34 rfl ?_
      refine x_getN (j := 7) (v := .int (xJ (s_9 d 7))) hx hb hown hT hE hW cls_X2 (Or.inl (by omega)) (so_day0 h0 g hd _) (by decide) rfl wn402 dX0_goOn_35 ?_
      refine x_rd hW (fun x14 ex14 rx14 => ?_)
      have fx14 : x14 = x8 := by rw [ex14, q9]
      have qx14 : 0 ≤ x14 ∧ x14 ≤ 9999 := by rw [ex14]; exact q9_3
      refine x_gov (x_runVN (As := [.int (xJ x14)]) hx hb hml hown hT hE hW hl.1 (Or.inl (by decide)) (so_109 h0 g _) rfl cf_X4_tellMinute wq793 wq40 wn791 (c_X4_tellMinute l D g T h0 s_9 hW.2.1 x14 rx14) ⟨rfl, rfl, ⟨by decide, by decide⟩, ⟨by decide, by decide⟩⟩ rfl rfl (Nat.le_of_ble_eq_true rfl) dX0_goOn_38) hW (fun s16 H locs hp17 hW => ?_)
      obtain ⟨fs16, hp17⟩ := hp17
      have hF18 := hF_9.call fs16 (fun k h => by omega)
      have q19 : s16 (d + 1) = fun _ => (-1) := (fs16 _ (by omega)).trans q9_0
      have q20 : s16 (d + 6) = fun _ => (-1) := (fs16 _ (by omega)).trans q9_1
      have q21 : s16 (d + 7) = fun _ => 0 := (fs16 _ (by omega)).trans q9_2
      have q22 : 0 ≤ s16 d 7 ∧ s16 d 7 ≤ 9999 := by rw [fs16 d (by omega)]; exact q9_3
      have q23 : 0 ≤ s16 d 8 ∧ s16 d 8 ≤ 65535 := by rw [fs16 d (by omega)]; exact q9_4
      have q24 : s16 4 = fun _ => 0 := (fs16 _ (by omega)).trans q9_5
      have q25 : s16 129 = fun _ => (-1) := (fs16 _ (by omega)).trans q9_6
      have q26 : s16 130 3 = 0 := (congrFun (fs16 _ (by omega)) _).trans q9_7
      have q27 : s16 109 6 = 0 := (congrFun (fs16 _ (by omega)) _).trans q9_8
      have q28 : s16 d 9 = z9 := (congrFun (fs16 _ (by omega)) _).trans q9_9
      have q29 : s16 d 10 = z10 := (congrFun (fs16 _ (by omega)) _).trans q9_10
      have q30 : s16 d 11 = z11 := (congrFun (fs16 _ (by omega)) _).trans q9_11
      have q31 : s16 d 7 = x8 := (congrFun (fs16 _ (by omega)) _).trans q9
      have ghp17 := hp17
      refine x_aload_n hx hb hl 1 rfl dX0_goOn_41 rfl ?_
      refine x_goi (x_runVN (As := []) hx hb hml hown hT hE hW hl.1 (Or.inl (by omega)) (so_day0 h0 g hd _) rfl cf_X2_draw wq797 wq41 wn795 (c_X2_draw l D g T h0 s16 hW.2.1 d hd z9 z10 z11 x8 q23 q22 q28 q29 q30 q31) ⟨rfl, rfl, ⟨by decide, by decide⟩, ⟨by decide, by decide⟩⟩ rfl rfl (Nat.le_of_ble_eq_true rfl) dX0_goOn_42) hW (fun x32 s33 H locs rx32 hp34 hW => ?_)
      obtain ⟨fs33, hp34⟩ := hp34
      have hF35 := hF18.call fs33 (fun k h => by omega)
      have q36 : s33 (d + 1) = fun _ => (-1) := (fs33 _ (by omega)).trans q19
      have q37 : s33 (d + 6) = fun _ => (-1) := (fs33 _ (by omega)).trans q20
      have q38 : s33 (d + 7) = fun _ => 0 := (fs33 _ (by omega)).trans q21
      have q39 : s33 4 = fun _ => 0 := (fs33 _ (by omega)).trans q24
      have q40 : s33 129 = fun _ => (-1) := (fs33 _ (by omega)).trans q25
      have q41 : s33 130 3 = 0 := (congrFun (fs33 _ (by omega)) _).trans q26
      have q42 : s33 109 6 = 0 := (congrFun (fs33 _ (by omega)) _).trans q27
      have ghp34 := hp34.2
      refine x_aload_n hx hb hl 0 rfl dX0_goOn_45 rfl ?_
      refine x_get (j := 1) (v := .ref (h0 + 109)) hx hb hown hT hE hW cls_X0 (Or.inl (by decide)) (so_128 h0 g _) (by decide) rfl wq354 dX0_goOn_46 ?_
      refine x_bipush hx hb dX0_goOn_49 (by decide) ?_
      refine x_bipush hx hb dX0_goOn_51 (by decide) ?_
      refine x_goi (x_runVN (As := [.int (xJ 99), .int (xJ 10)]) hx hb hml hown hT hE hW hl.1 (Or.inl (by decide)) (so_109 h0 g _) rfl cf_X4_worthOf wq802 wq42 wn800 (c_X4_worthOf l D g T h0 s33 hW.2.1 99 (by decide) 10 (by decide) q42) ⟨rfl, rfl, ⟨by decide, by decide⟩, ⟨by decide, by decide⟩⟩ rfl rfl (Nat.le_of_ble_eq_true rfl) dX0_goOn_53) hW (fun x43 s44 H locs rx43 hp45 hW => ?_)
      obtain ⟨es44, hp45⟩ := hp45
      subst es44
      have ghp45 := hp45
      refine x_icmp_ge (tgt := 63) hx hb rx32 rx43 dX0_goOn_56 (by decide) (fun c46 => ?_) (fun c46 => False.elim (by omega))
      refine x_iconst hx hb dX0_goOn_63 ?_
      refine lv_istore (lv' := [(6, .int (xJ 0)), (0, .ref (h0 + 128)), (1, .ref (h0 + d)), (2, .int (xJ n)), (3, .int (xJ a)), (4, .int (xJ x1)), (5, .int (xJ i5_9))]) hx hb dX0_goOn_64 hl (by decide) rfl (fun ls hl => ?_)
      refine x_iload hx hb hl 0 rfl dX0_goOn_66 ?_
      refine x_if_eq (tgt := 81) hx hb (by decide) dX0_goOn_68 (by decide) (fun c47 => ?_) (fun c47 => False.elim (by omega))
      refine x_aload_n hx hb hl 1 rfl dX0_goOn_81 rfl ?_
      refine x_get (j := 1) (v := .ref (h0 + 109)) hx hb hown hT hE hW cls_X0 (Or.inl (by decide)) (so_128 h0 g _) (by decide) rfl wq354 dX0_goOn_82 ?_
      refine x_aload_n hx hb hl 2 rfl dX0_goOn_85 rfl ?_
      refine x_getN (j := 7) (v := .int (xJ (s33 d 7))) hx hb hown hT hE hW cls_X2 (Or.inl (by omega)) (so_day0 h0 g hd _) (by decide) rfl wn402 dX0_goOn_86 ?_
      refine x_rd hW (fun x48 ex48 rx48 => ?_)
      have fx48 : x48 = x8 := by rw [ex48, hp34.1.2.2.2.2.2.1]
      have qx48 : 0 ≤ x48 ∧ x48 ≤ 9999 := by rw [ex48]; exact hp34.1.2.1
      refine x_goi (x_runVN (As := [.int (xJ x48)]) hx hb hml hown hT hE hW hl.1 (Or.inl (by decide)) (so_109 h0 g _) rfl cf_X4_isNight wq819 wq45 wn817 (c_X4_isNight l D g T h0 s33 hW.2.1 x48 rx48 q42) ⟨rfl, rfl, ⟨by decide, by decide⟩, ⟨by decide, by decide⟩⟩ rfl rfl (Nat.le_of_ble_eq_true rfl) dX0_goOn_89) hW (fun x49 s50 H locs rx49 hp51 hW => ?_)
      obtain ⟨fs50, hp51⟩ := hp51
      have hF52 := hF35.call fs50 (fun k h => by omega)
      have q53 : s50 (d + 1) = fun _ => (-1) := (fs50 _ (by omega)).trans q36
      have q54 : s50 (d + 6) = fun _ => (-1) := (fs50 _ (by omega)).trans q37
      have q55 : s50 (d + 7) = fun _ => 0 := (fs50 _ (by omega)).trans q38
      have q56 : s50 4 = fun _ => 0 := (fs50 _ (by omega)).trans q39
      have q57 : s50 129 = fun _ => (-1) := (fs50 _ (by omega)).trans q40
      have q58 : s50 130 3 = 0 := (congrFun (fs50 _ (by omega)) _).trans q41
      have q59 : s50 109 6 = 0 := (congrFun (fs50 _ (by omega)) _).trans q42
      have q60 : 0 ≤ s50 d 8 ∧ s50 d 8 ≤ 65535 := by rw [fs50 d (by omega)]; exact hp34.1.1
      have q61 : 0 ≤ s50 d 7 ∧ s50 d 7 ≤ 9999 := by rw [fs50 d (by omega)]; exact hp34.1.2.1
      have q62 : s50 d 9 = z9 := (congrFun (fs50 _ (by omega)) _).trans hp34.1.2.2.1
      have q63 : s50 d 10 = z10 := (congrFun (fs50 _ (by omega)) _).trans hp34.1.2.2.2.1
      have q64 : s50 d 11 = z11 := (congrFun (fs50 _ (by omega)) _).trans hp34.1.2.2.2.2.1
      have q65 : s50 d 7 = x8 := (congrFun (fs50 _ (by omega)) _).trans hp34.1.2.2.2.2.2.1
      have ghp51 := hp51
      refine lv_istore (lv' := [(7, .int (xJ x49)), (6, .int (xJ 0)), (0, .ref (h0 + 128)), (1, .ref (h0 + d)), (2, .int (xJ n)), (3, .int (xJ a)), (4, .int (xJ x1)), (5, .int (xJ i5_9))]) hx hb dX0_goOn_92 hl (by decide) rfl (fun ls hl => ?_)
      refine x_aload_n hx hb hl 2 rfl dX0_goOn_94 rfl ?_
      refine x_aload_n hx hb hl 3 rfl dX0_goOn_95 rfl ?_
      refine x_iload hx hb hl 1 rfl dX0_goOn_96 ?_
      refine x_if_ne (tgt := 105) hx hb (by decide) dX0_goOn_98 (by decide) (fun c66 => False.elim (by omega)) (fun c66 => ?_)
      refine x_iconst hx hb dX0_goOn_101 ?_
      refine lv_goto (tgt := 106) hx hb dX0_goOn_102 (by decide) ?_
      refine x_iload hx hb hl 0 rfl dX0_goOn_106 ?_
      refine x_gov (x_runV (As := [.ref (h0 + d), .int (xJ 1), .int (xJ x49)]) hx hb hml hown hT hE hW hl.1 (Or.inl (by decide)) (so_128 h0 g _) rfl cf_X0_cast wq824 wq46 wq822 (c_X0_cast l D g T h0 s50 hW.2.1 d hd 1 (by decide) x49 rx49 q53 q56 q57 q58) ⟨rfl, rfl, ⟨by decide, by decide⟩, ⟨by decide, by decide⟩⟩ rfl rfl (Nat.le_of_ble_eq_true rfl) dX0_goOn_108) hW (fun s68 H locs hp69 hW => ?_)
      obtain ⟨fs68, hp69⟩ := hp69
      have hF70 := hF52.call fs68 (fun k h => by omega)
      have q71 : s68 (d + 1) = fun _ => (-1) := (fs68 _ (by omega)).trans q53
      have q72 : s68 (d + 6) = fun _ => (-1) := (fs68 _ (by omega)).trans q54
      have q73 : s68 (d + 7) = fun _ => 0 := (fs68 _ (by omega)).trans q55
      have q74 : s68 4 = fun _ => 0 := (fs68 _ (by omega)).trans q56
      have q75 : s68 129 = fun _ => (-1) := (fs68 _ (by omega)).trans q57
      have q76 : s68 109 6 = 0 := (congrFun (fs68 _ (by omega)) _).trans q59
      have q77 : 0 ≤ s68 d 8 ∧ s68 d 8 ≤ 65535 := by rw [fs68 d (by omega)]; exact q60
      have q78 : 0 ≤ s68 d 7 ∧ s68 d 7 ≤ 9999 := by rw [fs68 d (by omega)]; exact q61
      have q79 : s68 d 9 = z9 := (congrFun (fs68 _ (by omega)) _).trans q62
      have q80 : s68 d 10 = z10 := (congrFun (fs68 _ (by omega)) _).trans q63
      have q81 : s68 d 11 = z11 := (congrFun (fs68 _ (by omega)) _).trans q64
      have q82 : s68 d 7 = x8 := (congrFun (fs68 _ (by omega)) _).trans q65
      have ghp69 := hp69.2
      refine x_aload_n hx hb hl 2 rfl dX0_goOn_111 rfl ?_
      refine x_aload_n hx hb hl 3 rfl dX0_goOn_112 rfl ?_
      refine x_aload_n hx hb hl 2 rfl dX0_goOn_113 rfl ?_
      refine x_aload_n hx hb hl 3 rfl dX0_goOn_114 rfl ?_
      refine x_iload_n hx hb hl 5 rfl dX0_goOn_115 rfl ?_
      refine x_goi (x_runV (As := [.ref (h0 + d), .int (xJ a)]) hx hb hml hown hT hE hW hl.1 (Or.inl (by decide)) (so_128 h0 g _) rfl cf_X0_lineUp wq854 wq51 wq852 (c_X0_lineUp l D g T h0 s68 hW.2.1 d hd a ra q72) ⟨rfl, rfl, ⟨by decide, by decide⟩, ⟨by decide, by decide⟩⟩ rfl rfl (Nat.le_of_ble_eq_true rfl) dX0_goOn_116) hW (fun x83 s84 H locs rx83 hp85 hW => ?_)
      obtain ⟨es84, hp85⟩ := hp85
      subst es84
      have ghp85 := hp85
      refine x_iload hx hb hl 0 rfl dX0_goOn_119 ?_
      refine x_gov (x_runV (As := [.ref (h0 + d), .int (xJ x83), .int (xJ x49)]) hx hb hml hown hT hE hW hl.1 (Or.inl (by decide)) (so_128 h0 g _) rfl cf_X0_felonsGo wq875 wq56 wq873 (c_X0_felonsGo l D g T h0 s68 hW.2.1 d hd x83 rx83 x49 rx49 (by omega)) ⟨rfl, rfl, ⟨by decide, by decide⟩, ⟨by decide, by decide⟩⟩ rfl rfl (Nat.le_of_ble_eq_true rfl) dX0_goOn_121) hW (fun s87 H locs hp88 hW => ?_)
      obtain ⟨es87, hp88⟩ := hp88
      subst es87
      have ghp88 := hp88
      refine x_aload_n hx hb hl 3 rfl dX0_goOn_124 rfl ?_
      refine lv_dup hx hb dX0_goOn_125 rfl ?_
      refine x_getN (j := 7) (v := .int (xJ (s68 d 7))) hx hb hown hT hE hW cls_X2 (Or.inl (by omega)) (so_day0 h0 g hd _) (by decide) rfl wn402 dX0_goOn_126 ?_
      refine x_rd hW (fun x89 ex89 rx89 => ?_)
      have fx89 : x89 = x8 := by rw [ex89, q82]
      have qx89 : 0 ≤ x89 ∧ x89 ≤ 9999 := by rw [ex89]; exact q78
      refine x_iconst hx hb dX0_goOn_129 ?_
      refine x_iadd hx hb dX0_goOn_130 ?_
      refine x_putN (j := 7) hx hb hown hT hE hW cls_X2 (by omega) (fun σ => so_day0 h0 g hd σ) (by decide) (st_X2_7 h0 s68 d (x89 + 1)) (ln_X2_7 h0 _ _) wn402 rfl rfl rfl (by omega) dX0_goOn_131 (fun H locs s90 es90 hW => ?_)
      have q91 : s90 (d + 1) = fun _ => (-1) := by rw [es90, xU_k _ _ _ (by omega)]; exact q71
      have q92 : s90 (d + 6) = fun _ => (-1) := by rw [es90, xU_k _ _ _ (by omega)]; exact q72
      have q93 : s90 (d + 7) = fun _ => 0 := by rw [es90, xU_k _ _ _ (by omega)]; exact q73
      have q94 : s90 4 = fun _ => 0 := by rw [es90, xU_k _ _ _ (by omega)]; exact q74
      have q95 : s90 129 = fun _ => (-1) := by rw [es90, xU_k _ _ _ (by omega)]; exact q75
      have q96 : s90 109 6 = 0 := by rw [es90, xU_k _ _ _ (by omega)]; exact q76
      have q97 : 0 ≤ s90 d 8 ∧ s90 d 8 ≤ 65535 := by rw [es90, xU_j _ _ (by decide)]; exact q77
      have q98 : 0 ≤ s90 d 7 ∧ s90 d 7 ≤ 9999 := by rw [es90, xU_s]; omega
      have q99 : s90 d 9 = z9 := by rw [es90, xU_j _ _ (by decide)]; exact q79
      have q100 : s90 d 10 = z10 := by rw [es90, xU_j _ _ (by decide)]; exact q80
      have q101 : s90 d 11 = z11 := by rw [es90, xU_j _ _ (by decide)]; exact q81
      have q102 : s90 d 7 = (x89 + 1) := by rw [es90, xU_s]
      have q103 : s90 130 3 = 0 := by rw [es90, xU_k _ _ _ (by omega)]; exact hp69.1.1
      have hF104 := hF70.put es90 (by omega)
      refine x_iinc (lv' := [(5, .int (xJ (i5_9 + 1))), (7, .int (xJ x49)), (6, .int (xJ 0)), (0, .ref (h0 + 128)), (1, .ref (h0 + d)), (2, .int (xJ n)), (3, .int (xJ a)), (4, .int (xJ x1))]) hx hb hl 7 rfl dX0_goOn_134 (by decide) rfl (fun ls hl => ?_)
      refine lv_goto (tgt := 9) hx hb dX0_goOn_137 (by decide) ?_
      exact ih9 (i5_9 + 1) s90 H locs ls (by omega) hF104 q91 q92 q93 q98 q97 q94 q95 q103 q96 q99 q100 q101 (by omega) (by omega) (by omega) hW (lv_sub hl [3, 4, 5, 6, 7, 0] rfl)
  exact L9 ((n - 0 : Int).toNat + 1) 0 s0 H locs ls (by decide) hF p0 p1 p2 p3 p4 p5 p6 p7 p8 p9 p10 p11 (by omega) (by omega) (Nat.lt_succ_self _) hW (lv_sub hl [2, 3, 4, 5, 1, 0] rfl)
end
