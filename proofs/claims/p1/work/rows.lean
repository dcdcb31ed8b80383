section
-- ===== PART A: goes FIRST, ahead of the names: the tables' words, and 'selects' of the private methods out of them =====
/-- a private method of a class that the tables say can be made, by its rows of tables_1 -/
def lw_okq (q : MethodName × Nat) : Prop := (q.1.cls ≠ "java/lang/invoke/MethodHandle" ∧ q.1.cls ≠ "java/lang/invoke/VarHandle") ∧ Cond.instantiable q.1.cls q.2 ∈ tables_1 ∧ Cond.privateMethod q.1 ∈ tables_1 ∧ Cond.instanceMethod q.1 ∈ tables_1
theorem lw_p0 : lw_okq (⟨"ShadowCourt$Tape", "putNumber", "(I)V"⟩, 5) := ⟨⟨by decide +kernel, by decide +kernel⟩, List.mem_of_getElem? (i := 24) (by decide +kernel), List.mem_of_getElem? (i := 387) (by decide +kernel), List.mem_of_getElem? (i := 388) (by decide +kernel)⟩
theorem lw_p1 : lw_okq (⟨"ShadowCourt$Tape", "open", "(I)V"⟩, 5) := ⟨⟨by decide +kernel, by decide +kernel⟩, List.mem_of_getElem? (i := 24) (by decide +kernel), List.mem_of_getElem? (i := 398) (by decide +kernel), List.mem_of_getElem? (i := 399) (by decide +kernel)⟩
theorem lw_p2 : lw_okq (⟨"ShadowCourt$Market", "readFrom", "(LShadowCourt$Tape;)Z"⟩, 5) := ⟨⟨by decide +kernel, by decide +kernel⟩, List.mem_of_getElem? (i := 52) (by decide +kernel), List.mem_of_getElem? (i := 405) (by decide +kernel), List.mem_of_getElem? (i := 406) (by decide +kernel)⟩
theorem lw_p3 : lw_okq (⟨"ShadowCourt$Market", "readRow", "(LShadowCourt$Tape;I)Z"⟩, 5) := ⟨⟨by decide +kernel, by decide +kernel⟩, List.mem_of_getElem? (i := 52) (by decide +kernel), List.mem_of_getElem? (i := 409) (by decide +kernel), List.mem_of_getElem? (i := 410) (by decide +kernel)⟩
theorem lw_p4 : lw_okq (⟨"ShadowCourt$Tape", "sign", "()I"⟩, 5) := ⟨⟨by decide +kernel, by decide +kernel⟩, List.mem_of_getElem? (i := 24) (by decide +kernel), List.mem_of_getElem? (i := 413) (by decide +kernel), List.mem_of_getElem? (i := 414) (by decide +kernel)⟩
theorem lw_p5 : lw_okq (⟨"ShadowCourt$Tape", "fails", "(II)Z"⟩, 5) := ⟨⟨by decide +kernel, by decide +kernel⟩, List.mem_of_getElem? (i := 24) (by decide +kernel), List.mem_of_getElem? (i := 420) (by decide +kernel), List.mem_of_getElem? (i := 421) (by decide +kernel)⟩
theorem lw_p6 : lw_okq (⟨"ShadowCourt$Tape", "passes", "(I)Z"⟩, 5) := ⟨⟨by decide +kernel, by decide +kernel⟩, List.mem_of_getElem? (i := 24) (by decide +kernel), List.mem_of_getElem? (i := 430) (by decide +kernel), List.mem_of_getElem? (i := 431) (by decide +kernel)⟩
theorem lw_p7 : lw_okq (⟨"ShadowCourt$Tape", "drop", "()V"⟩, 5) := ⟨⟨by decide +kernel, by decide +kernel⟩, List.mem_of_getElem? (i := 24) (by decide +kernel), List.mem_of_getElem? (i := 439) (by decide +kernel), List.mem_of_getElem? (i := 440) (by decide +kernel)⟩
theorem lw_p8 : lw_okq (⟨"ShadowCourt", "sendAwayWhoCannotStand", "()V"⟩, 12) := ⟨⟨by decide +kernel, by decide +kernel⟩, List.mem_of_getElem? (i := 16) (by decide +kernel), List.mem_of_getElem? (i := 443) (by decide +kernel), List.mem_of_getElem? (i := 444) (by decide +kernel)⟩
theorem lw_p9 : lw_okq (⟨"ShadowCourt$Market", "isOpen", "(I)Z"⟩, 5) := ⟨⟨by decide +kernel, by decide +kernel⟩, List.mem_of_getElem? (i := 52) (by decide +kernel), List.mem_of_getElem? (i := 447) (by decide +kernel), List.mem_of_getElem? (i := 448) (by decide +kernel)⟩
theorem lw_p10 : lw_okq (⟨"ShadowCourt$Market", "kindAt", "(I)I"⟩, 5) := ⟨⟨by decide +kernel, by decide +kernel⟩, List.mem_of_getElem? (i := 52) (by decide +kernel), List.mem_of_getElem? (i := 451) (by decide +kernel), List.mem_of_getElem? (i := 452) (by decide +kernel)⟩
theorem lw_p11 : lw_okq (⟨"ShadowCourt$Day", "setFelon", "(III)V"⟩, 12) := ⟨⟨by decide +kernel, by decide +kernel⟩, List.mem_of_getElem? (i := 210) (by decide +kernel), List.mem_of_getElem? (i := 455) (by decide +kernel), List.mem_of_getElem? (i := 456) (by decide +kernel)⟩
theorem lw_p12 : lw_okq (⟨"ShadowCourt$Market", "howMany", "(I)I"⟩, 5) := ⟨⟨by decide +kernel, by decide +kernel⟩, List.mem_of_getElem? (i := 52) (by decide +kernel), List.mem_of_getElem? (i := 459) (by decide +kernel), List.mem_of_getElem? (i := 460) (by decide +kernel)⟩
theorem lw_p13 : lw_okq (⟨"ShadowCourt$LawReader", "readWhole", "()Z"⟩, 2) := ⟨⟨by decide +kernel, by decide +kernel⟩, List.mem_of_getElem? (i := 119) (by decide +kernel), List.mem_of_getElem? (i := 467) (by decide +kernel), List.mem_of_getElem? (i := 468) (by decide +kernel)⟩
theorem lw_p14 : lw_okq (⟨"ShadowCourt$Law", "empty", "()V"⟩, 9) := ⟨⟨by decide +kernel, by decide +kernel⟩, List.mem_of_getElem? (i := 77) (by decide +kernel), List.mem_of_getElem? (i := 471) (by decide +kernel), List.mem_of_getElem? (i := 472) (by decide +kernel)⟩
theorem lw_p15 : lw_okq (⟨"ShadowCourt$LawReader", "readClause", "(II)Z"⟩, 2) := ⟨⟨by decide +kernel, by decide +kernel⟩, List.mem_of_getElem? (i := 119) (by decide +kernel), List.mem_of_getElem? (i := 480) (by decide +kernel), List.mem_of_getElem? (i := 481) (by decide +kernel)⟩
def lw_privs_1 : List (MethodName × Nat) := [(⟨"ShadowCourt$Tape", "putNumber", "(I)V"⟩, 5), (⟨"ShadowCourt$Tape", "open", "(I)V"⟩, 5), (⟨"ShadowCourt$Market", "readFrom", "(LShadowCourt$Tape;)Z"⟩, 5), (⟨"ShadowCourt$Market", "readRow", "(LShadowCourt$Tape;I)Z"⟩, 5), (⟨"ShadowCourt$Tape", "sign", "()I"⟩, 5), (⟨"ShadowCourt$Tape", "fails", "(II)Z"⟩, 5), (⟨"ShadowCourt$Tape", "passes", "(I)Z"⟩, 5), (⟨"ShadowCourt$Tape", "drop", "()V"⟩, 5), (⟨"ShadowCourt", "sendAwayWhoCannotStand", "()V"⟩, 12), (⟨"ShadowCourt$Market", "isOpen", "(I)Z"⟩, 5), (⟨"ShadowCourt$Market", "kindAt", "(I)I"⟩, 5), (⟨"ShadowCourt$Day", "setFelon", "(III)V"⟩, 12), (⟨"ShadowCourt$Market", "howMany", "(I)I"⟩, 5), (⟨"ShadowCourt$LawReader", "readWhole", "()Z"⟩, 2), (⟨"ShadowCourt$Law", "empty", "()V"⟩, 9), (⟨"ShadowCourt$LawReader", "readClause", "(II)Z"⟩, 2)]
theorem lw_r1 : ∀ q ∈ lw_privs_1, lw_okq q := List.forall_mem_cons.mpr ⟨lw_p0, List.forall_mem_cons.mpr ⟨lw_p1, List.forall_mem_cons.mpr ⟨lw_p2, List.forall_mem_cons.mpr ⟨lw_p3, List.forall_mem_cons.mpr ⟨lw_p4, List.forall_mem_cons.mpr ⟨lw_p5, List.forall_mem_cons.mpr ⟨lw_p6, List.forall_mem_cons.mpr ⟨lw_p7, List.forall_mem_cons.mpr ⟨lw_p8, List.forall_mem_cons.mpr ⟨lw_p9, List.forall_mem_cons.mpr ⟨lw_p10, List.forall_mem_cons.mpr ⟨lw_p11, List.forall_mem_cons.mpr ⟨lw_p12, List.forall_mem_cons.mpr ⟨lw_p13, List.forall_mem_cons.mpr ⟨lw_p14, List.forall_mem_cons.mpr ⟨lw_p15, fun _ h => absurd h List.not_mem_nil⟩⟩⟩⟩⟩⟩⟩⟩⟩⟩⟩⟩⟩⟩⟩⟩
theorem lw_p16 : lw_okq (⟨"ShadowCourt$LawReader", "readSum", "(I)Z"⟩, 2) := ⟨⟨by decide +kernel, by decide +kernel⟩, List.mem_of_getElem? (i := 119) (by decide +kernel), List.mem_of_getElem? (i := 484) (by decide +kernel), List.mem_of_getElem? (i := 485) (by decide +kernel)⟩
theorem lw_p17 : lw_okq (⟨"ShadowCourt$LawReader", "readTerm", "(I)Z"⟩, 2) := ⟨⟨by decide +kernel, by decide +kernel⟩, List.mem_of_getElem? (i := 119) (by decide +kernel), List.mem_of_getElem? (i := 488) (by decide +kernel), List.mem_of_getElem? (i := 489) (by decide +kernel)⟩
theorem lw_p18 : lw_okq (⟨"ShadowCourt$LawReader", "readFactor", "(I)Z"⟩, 2) := ⟨⟨by decide +kernel, by decide +kernel⟩, List.mem_of_getElem? (i := 119) (by decide +kernel), List.mem_of_getElem? (i := 492) (by decide +kernel), List.mem_of_getElem? (i := 493) (by decide +kernel)⟩
theorem lw_p19 : lw_okq (⟨"ShadowCourt$Tape", "isDigit", "()Z"⟩, 5) := ⟨⟨by decide +kernel, by decide +kernel⟩, List.mem_of_getElem? (i := 24) (by decide +kernel), List.mem_of_getElem? (i := 496) (by decide +kernel), List.mem_of_getElem? (i := 497) (by decide +kernel)⟩
theorem lw_p20 : lw_okq (⟨"ShadowCourt$LawReader", "readNumber", "()Z"⟩, 2) := ⟨⟨by decide +kernel, by decide +kernel⟩, List.mem_of_getElem? (i := 119) (by decide +kernel), List.mem_of_getElem? (i := 500) (by decide +kernel), List.mem_of_getElem? (i := 501) (by decide +kernel)⟩
theorem lw_p21 : lw_okq (⟨"ShadowCourt$Law", "put", "(II)I"⟩, 9) := ⟨⟨by decide +kernel, by decide +kernel⟩, List.mem_of_getElem? (i := 77) (by decide +kernel), List.mem_of_getElem? (i := 504) (by decide +kernel), List.mem_of_getElem? (i := 505) (by decide +kernel)⟩
theorem lw_p22 : lw_okq (⟨"ShadowCourt$LawReader", "readParts", "(I)Z"⟩, 2) := ⟨⟨by decide +kernel, by decide +kernel⟩, List.mem_of_getElem? (i := 119) (by decide +kernel), List.mem_of_getElem? (i := 512) (by decide +kernel), List.mem_of_getElem? (i := 513) (by decide +kernel)⟩
theorem lw_p23 : lw_okq (⟨"ShadowCourt$LawReader", "readPieces", "(I)Z"⟩, 2) := ⟨⟨by decide +kernel, by decide +kernel⟩, List.mem_of_getElem? (i := 119) (by decide +kernel), List.mem_of_getElem? (i := 516) (by decide +kernel), List.mem_of_getElem? (i := 517) (by decide +kernel)⟩
theorem lw_p24 : lw_okq (⟨"ShadowCourt$LawReader", "readPiece", "(I)Z"⟩, 2) := ⟨⟨by decide +kernel, by decide +kernel⟩, List.mem_of_getElem? (i := 119) (by decide +kernel), List.mem_of_getElem? (i := 520) (by decide +kernel), List.mem_of_getElem? (i := 521) (by decide +kernel)⟩
theorem lw_p25 : lw_okq (⟨"ShadowCourt$Law", "landSkip", "(I)V"⟩, 9) := ⟨⟨by decide +kernel, by decide +kernel⟩, List.mem_of_getElem? (i := 77) (by decide +kernel), List.mem_of_getElem? (i := 524) (by decide +kernel), List.mem_of_getElem? (i := 525) (by decide +kernel)⟩
theorem lw_p26 : lw_okq (⟨"ShadowCourt$Law", "copyFrom", "(LShadowCourt$Law;)V"⟩, 9) := ⟨⟨by decide +kernel, by decide +kernel⟩, List.mem_of_getElem? (i := 77) (by decide +kernel), List.mem_of_getElem? (i := 528) (by decide +kernel), List.mem_of_getElem? (i := 529) (by decide +kernel)⟩
theorem lw_p27 : lw_okq (⟨"ShadowCourt$Market", "openSpot", "(II)I"⟩, 5) := ⟨⟨by decide +kernel, by decide +kernel⟩, List.mem_of_getElem? (i := 52) (by decide +kernel), List.mem_of_getElem? (i := 537) (by decide +kernel), List.mem_of_getElem? (i := 538) (by decide +kernel)⟩
theorem lw_p28 : lw_okq (⟨"ShadowCourt$WalkReader", "readWhole", "()Z"⟩, 3) := ⟨⟨by decide +kernel, by decide +kernel⟩, List.mem_of_getElem? (i := 135) (by decide +kernel), List.mem_of_getElem? (i := 549) (by decide +kernel), List.mem_of_getElem? (i := 550) (by decide +kernel)⟩
theorem lw_p29 : lw_okq (⟨"ShadowCourt$WalkReader", "readSteps", "(I)Z"⟩, 3) := ⟨⟨by decide +kernel, by decide +kernel⟩, List.mem_of_getElem? (i := 135) (by decide +kernel), List.mem_of_getElem? (i := 553) (by decide +kernel), List.mem_of_getElem? (i := 554) (by decide +kernel)⟩
theorem lw_p30 : lw_okq (⟨"ShadowCourt$WalkReader", "readStep", "(I)Z"⟩, 3) := ⟨⟨by decide +kernel, by decide +kernel⟩, List.mem_of_getElem? (i := 135) (by decide +kernel), List.mem_of_getElem? (i := 557) (by decide +kernel), List.mem_of_getElem? (i := 558) (by decide +kernel)⟩
theorem lw_p31 : lw_okq (⟨"ShadowCourt$WalkReader", "repeat", "(II)Z"⟩, 3) := ⟨⟨by decide +kernel, by decide +kernel⟩, List.mem_of_getElem? (i := 135) (by decide +kernel), List.mem_of_getElem? (i := 564) (by decide +kernel), List.mem_of_getElem? (i := 565) (by decide +kernel)⟩
def lw_privs_2 : List (MethodName × Nat) := [(⟨"ShadowCourt$LawReader", "readSum", "(I)Z"⟩, 2), (⟨"ShadowCourt$LawReader", "readTerm", "(I)Z"⟩, 2), (⟨"ShadowCourt$LawReader", "readFactor", "(I)Z"⟩, 2), (⟨"ShadowCourt$Tape", "isDigit", "()Z"⟩, 5), (⟨"ShadowCourt$LawReader", "readNumber", "()Z"⟩, 2), (⟨"ShadowCourt$Law", "put", "(II)I"⟩, 9), (⟨"ShadowCourt$LawReader", "readParts", "(I)Z"⟩, 2), (⟨"ShadowCourt$LawReader", "readPieces", "(I)Z"⟩, 2), (⟨"ShadowCourt$LawReader", "readPiece", "(I)Z"⟩, 2), (⟨"ShadowCourt$Law", "landSkip", "(I)V"⟩, 9), (⟨"ShadowCourt$Law", "copyFrom", "(LShadowCourt$Law;)V"⟩, 9), (⟨"ShadowCourt$Market", "openSpot", "(II)I"⟩, 5), (⟨"ShadowCourt$WalkReader", "readWhole", "()Z"⟩, 3), (⟨"ShadowCourt$WalkReader", "readSteps", "(I)Z"⟩, 3), (⟨"ShadowCourt$WalkReader", "readStep", "(I)Z"⟩, 3), (⟨"ShadowCourt$WalkReader", "repeat", "(II)Z"⟩, 3)]
theorem lw_r2 : ∀ q ∈ lw_privs_2, lw_okq q := List.forall_mem_cons.mpr ⟨lw_p16, List.forall_mem_cons.mpr ⟨lw_p17, List.forall_mem_cons.mpr ⟨lw_p18, List.forall_mem_cons.mpr ⟨lw_p19, List.forall_mem_cons.mpr ⟨lw_p20, List.forall_mem_cons.mpr ⟨lw_p21, List.forall_mem_cons.mpr ⟨lw_p22, List.forall_mem_cons.mpr ⟨lw_p23, List.forall_mem_cons.mpr ⟨lw_p24, List.forall_mem_cons.mpr ⟨lw_p25, List.forall_mem_cons.mpr ⟨lw_p26, List.forall_mem_cons.mpr ⟨lw_p27, List.forall_mem_cons.mpr ⟨lw_p28, List.forall_mem_cons.mpr ⟨lw_p29, List.forall_mem_cons.mpr ⟨lw_p30, List.forall_mem_cons.mpr ⟨lw_p31, fun _ h => absurd h List.not_mem_nil⟩⟩⟩⟩⟩⟩⟩⟩⟩⟩⟩⟩⟩⟩⟩⟩
theorem lw_p32 : lw_okq (⟨"ShadowCourt$WalkReader", "copyOfSteps", "()[I"⟩, 3) := ⟨⟨by decide +kernel, by decide +kernel⟩, List.mem_of_getElem? (i := 135) (by decide +kernel), List.mem_of_getElem? (i := 571) (by decide +kernel), List.mem_of_getElem? (i := 572) (by decide +kernel)⟩
theorem lw_p33 : lw_okq (⟨"ShadowCourt$Day", "setWalk", "(I[I)V"⟩, 12) := ⟨⟨by decide +kernel, by decide +kernel⟩, List.mem_of_getElem? (i := 210) (by decide +kernel), List.mem_of_getElem? (i := 577) (by decide +kernel), List.mem_of_getElem? (i := 578) (by decide +kernel)⟩
theorem lw_p34 : lw_okq (⟨"ShadowCourt$Clock", "goOn", "(LShadowCourt$Day;II)I"⟩, 6) := ⟨⟨by decide +kernel, by decide +kernel⟩, List.mem_of_getElem? (i := 152) (by decide +kernel), List.mem_of_getElem? (i := 593) (by decide +kernel), List.mem_of_getElem? (i := 594) (by decide +kernel)⟩
theorem lw_p35 : lw_okq (⟨"ShadowCourt$Day", "owedByAll", "()I"⟩, 12) := ⟨⟨by decide +kernel, by decide +kernel⟩, List.mem_of_getElem? (i := 210) (by decide +kernel), List.mem_of_getElem? (i := 597) (by decide +kernel), List.mem_of_getElem? (i := 598) (by decide +kernel)⟩
theorem lw_p36 : lw_okq (⟨"ShadowCourt$Clock", "judgesStep", "(LShadowCourt$Day;)V"⟩, 6) := ⟨⟨by decide +kernel, by decide +kernel⟩, List.mem_of_getElem? (i := 152) (by decide +kernel), List.mem_of_getElem? (i := 601) (by decide +kernel), List.mem_of_getElem? (i := 602) (by decide +kernel)⟩
theorem lw_p37 : lw_okq (⟨"ShadowCourt$Day", "hasJudge", "(I)Z"⟩, 12) := ⟨⟨by decide +kernel, by decide +kernel⟩, List.mem_of_getElem? (i := 210) (by decide +kernel), List.mem_of_getElem? (i := 605) (by decide +kernel), List.mem_of_getElem? (i := 606) (by decide +kernel)⟩
theorem lw_p38 : lw_okq (⟨"ShadowCourt$Day", "takeStep", "(I)I"⟩, 12) := ⟨⟨by decide +kernel, by decide +kernel⟩, List.mem_of_getElem? (i := 210) (by decide +kernel), List.mem_of_getElem? (i := 609) (by decide +kernel), List.mem_of_getElem? (i := 610) (by decide +kernel)⟩
theorem lw_p39 : lw_okq (⟨"ShadowCourt$Day", "stepsLeft", "(I)I"⟩, 12) := ⟨⟨by decide +kernel, by decide +kernel⟩, List.mem_of_getElem? (i := 210) (by decide +kernel), List.mem_of_getElem? (i := 613) (by decide +kernel), List.mem_of_getElem? (i := 614) (by decide +kernel)⟩
theorem lw_p40 : lw_okq (⟨"ShadowCourt$Law", "tellMinute", "(I)V"⟩, 9) := ⟨⟨by decide +kernel, by decide +kernel⟩, List.mem_of_getElem? (i := 77) (by decide +kernel), List.mem_of_getElem? (i := 625) (by decide +kernel), List.mem_of_getElem? (i := 626) (by decide +kernel)⟩
theorem lw_p41 : lw_okq (⟨"ShadowCourt$Day", "draw", "()I"⟩, 12) := ⟨⟨by decide +kernel, by decide +kernel⟩, List.mem_of_getElem? (i := 210) (by decide +kernel), List.mem_of_getElem? (i := 629) (by decide +kernel), List.mem_of_getElem? (i := 630) (by decide +kernel)⟩
theorem lw_p42 : lw_okq (⟨"ShadowCourt$Law", "worthOf", "(II)I"⟩, 9) := ⟨⟨by decide +kernel, by decide +kernel⟩, List.mem_of_getElem? (i := 77) (by decide +kernel), List.mem_of_getElem? (i := 634) (by decide +kernel), List.mem_of_getElem? (i := 635) (by decide +kernel)⟩
theorem lw_p43 : lw_okq (⟨"ShadowCourt$Law", "reckon", "(I)I"⟩, 9) := ⟨⟨by decide +kernel, by decide +kernel⟩, List.mem_of_getElem? (i := 77) (by decide +kernel), List.mem_of_getElem? (i := 638) (by decide +kernel), List.mem_of_getElem? (i := 639) (by decide +kernel)⟩
theorem lw_p44 : lw_okq (⟨"ShadowCourt$Law", "toldAt", "(I)I"⟩, 9) := ⟨⟨by decide +kernel, by decide +kernel⟩, List.mem_of_getElem? (i := 77) (by decide +kernel), List.mem_of_getElem? (i := 642) (by decide +kernel), List.mem_of_getElem? (i := 643) (by decide +kernel)⟩
theorem lw_p45 : lw_okq (⟨"ShadowCourt$Law", "isNight", "(I)Z"⟩, 9) := ⟨⟨by decide +kernel, by decide +kernel⟩, List.mem_of_getElem? (i := 77) (by decide +kernel), List.mem_of_getElem? (i := 651) (by decide +kernel), List.mem_of_getElem? (i := 652) (by decide +kernel)⟩
theorem lw_p46 : lw_okq (⟨"ShadowCourt$Clock", "cast", "(LShadowCourt$Day;ZZ)V"⟩, 6) := ⟨⟨by decide +kernel, by decide +kernel⟩, List.mem_of_getElem? (i := 152) (by decide +kernel), List.mem_of_getElem? (i := 656) (by decide +kernel), List.mem_of_getElem? (i := 657) (by decide +kernel)⟩
theorem lw_p47 : lw_okq (⟨"ShadowCourt$Shadows", "clear", "()V"⟩, 4) := ⟨⟨by decide +kernel, by decide +kernel⟩, List.mem_of_getElem? (i := 158) (by decide +kernel), List.mem_of_getElem? (i := 660) (by decide +kernel), List.mem_of_getElem? (i := 661) (by decide +kernel)⟩
def lw_privs_3 : List (MethodName × Nat) := [(⟨"ShadowCourt$WalkReader", "copyOfSteps", "()[I"⟩, 3), (⟨"ShadowCourt$Day", "setWalk", "(I[I)V"⟩, 12), (⟨"ShadowCourt$Clock", "goOn", "(LShadowCourt$Day;II)I"⟩, 6), (⟨"ShadowCourt$Day", "owedByAll", "()I"⟩, 12), (⟨"ShadowCourt$Clock", "judgesStep", "(LShadowCourt$Day;)V"⟩, 6), (⟨"ShadowCourt$Day", "hasJudge", "(I)Z"⟩, 12), (⟨"ShadowCourt$Day", "takeStep", "(I)I"⟩, 12), (⟨"ShadowCourt$Day", "stepsLeft", "(I)I"⟩, 12), (⟨"ShadowCourt$Law", "tellMinute", "(I)V"⟩, 9), (⟨"ShadowCourt$Day", "draw", "()I"⟩, 12), (⟨"ShadowCourt$Law", "worthOf", "(II)I"⟩, 9), (⟨"ShadowCourt$Law", "reckon", "(I)I"⟩, 9), (⟨"ShadowCourt$Law", "toldAt", "(I)I"⟩, 9), (⟨"ShadowCourt$Law", "isNight", "(I)Z"⟩, 9), (⟨"ShadowCourt$Clock", "cast", "(LShadowCourt$Day;ZZ)V"⟩, 6), (⟨"ShadowCourt$Shadows", "clear", "()V"⟩, 4)]
theorem lw_r3 : ∀ q ∈ lw_privs_3, lw_okq q := List.forall_mem_cons.mpr ⟨lw_p32, List.forall_mem_cons.mpr ⟨lw_p33, List.forall_mem_cons.mpr ⟨lw_p34, List.forall_mem_cons.mpr ⟨lw_p35, List.forall_mem_cons.mpr ⟨lw_p36, List.forall_mem_cons.mpr ⟨lw_p37, List.forall_mem_cons.mpr ⟨lw_p38, List.forall_mem_cons.mpr ⟨lw_p39, List.forall_mem_cons.mpr ⟨lw_p40, List.forall_mem_cons.mpr ⟨lw_p41, List.forall_mem_cons.mpr ⟨lw_p42, List.forall_mem_cons.mpr ⟨lw_p43, List.forall_mem_cons.mpr ⟨lw_p44, List.forall_mem_cons.mpr ⟨lw_p45, List.forall_mem_cons.mpr ⟨lw_p46, List.forall_mem_cons.mpr ⟨lw_p47, fun _ h => absurd h List.not_mem_nil⟩⟩⟩⟩⟩⟩⟩⟩⟩⟩⟩⟩⟩⟩⟩⟩
theorem lw_p48 : lw_okq (⟨"ShadowCourt$Law", "tellJudge", "(II)V"⟩, 9) := ⟨⟨by decide +kernel, by decide +kernel⟩, List.mem_of_getElem? (i := 77) (by decide +kernel), List.mem_of_getElem? (i := 667) (by decide +kernel), List.mem_of_getElem? (i := 668) (by decide +kernel)⟩
theorem lw_p49 : lw_okq (⟨"ShadowCourt$Shadows", "fall", "(LShadowCourt$Market;III)V"⟩, 4) := ⟨⟨by decide +kernel, by decide +kernel⟩, List.mem_of_getElem? (i := 158) (by decide +kernel), List.mem_of_getElem? (i := 671) (by decide +kernel), List.mem_of_getElem? (i := 672) (by decide +kernel)⟩
theorem lw_p50 : lw_okq (⟨"ShadowCourt$Clock", "castOfLamp", "(LShadowCourt$Day;I)V"⟩, 6) := ⟨⟨by decide +kernel, by decide +kernel⟩, List.mem_of_getElem? (i := 152) (by decide +kernel), List.mem_of_getElem? (i := 677) (by decide +kernel), List.mem_of_getElem? (i := 678) (by decide +kernel)⟩
theorem lw_p51 : lw_okq (⟨"ShadowCourt$Clock", "lineUp", "(LShadowCourt$Day;I)I"⟩, 6) := ⟨⟨by decide +kernel, by decide +kernel⟩, List.mem_of_getElem? (i := 152) (by decide +kernel), List.mem_of_getElem? (i := 686) (by decide +kernel), List.mem_of_getElem? (i := 687) (by decide +kernel)⟩
theorem lw_p52 : lw_okq (⟨"ShadowCourt$Day", "mustServe", "(I)Z"⟩, 12) := ⟨⟨by decide +kernel, by decide +kernel⟩, List.mem_of_getElem? (i := 210) (by decide +kernel), List.mem_of_getElem? (i := 690) (by decide +kernel), List.mem_of_getElem? (i := 691) (by decide +kernel)⟩
theorem lw_p53 : lw_okq (⟨"ShadowCourt$Day", "hasFelon", "(I)Z"⟩, 12) := ⟨⟨by decide +kernel, by decide +kernel⟩, List.mem_of_getElem? (i := 210) (by decide +kernel), List.mem_of_getElem? (i := 694) (by decide +kernel), List.mem_of_getElem? (i := 695) (by decide +kernel)⟩
theorem lw_p54 : lw_okq (⟨"ShadowCourt$Clock", "tellFelon", "(LShadowCourt$Day;I)V"⟩, 6) := ⟨⟨by decide +kernel, by decide +kernel⟩, List.mem_of_getElem? (i := 152) (by decide +kernel), List.mem_of_getElem? (i := 698) (by decide +kernel), List.mem_of_getElem? (i := 699) (by decide +kernel)⟩
theorem lw_p55 : lw_okq (⟨"ShadowCourt$Law", "tellFelon", "(IIIII)V"⟩, 9) := ⟨⟨by decide +kernel, by decide +kernel⟩, List.mem_of_getElem? (i := 77) (by decide +kernel), List.mem_of_getElem? (i := 703) (by decide +kernel), List.mem_of_getElem? (i := 704) (by decide +kernel)⟩
theorem lw_p56 : lw_okq (⟨"ShadowCourt$Clock", "felonsGo", "(LShadowCourt$Day;IZ)V"⟩, 6) := ⟨⟨by decide +kernel, by decide +kernel⟩, List.mem_of_getElem? (i := 152) (by decide +kernel), List.mem_of_getElem? (i := 707) (by decide +kernel), List.mem_of_getElem? (i := 708) (by decide +kernel)⟩
theorem lw_p57 : lw_okq (⟨"ShadowCourt$Clock", "reachOf", "(LShadowCourt$Day;I)I"⟩, 6) := ⟨⟨by decide +kernel, by decide +kernel⟩, List.mem_of_getElem? (i := 152) (by decide +kernel), List.mem_of_getElem? (i := 711) (by decide +kernel), List.mem_of_getElem? (i := 712) (by decide +kernel)⟩
theorem lw_p58 : lw_okq (⟨"ShadowCourt$Clock", "findShadow", "(LShadowCourt$Day;II)I"⟩, 6) := ⟨⟨by decide +kernel, by decide +kernel⟩, List.mem_of_getElem? (i := 152) (by decide +kernel), List.mem_of_getElem? (i := 715) (by decide +kernel), List.mem_of_getElem? (i := 716) (by decide +kernel)⟩
theorem lw_p59 : lw_okq (⟨"ShadowCourt$Market", "stepsBetween", "(II)I"⟩, 5) := ⟨⟨by decide +kernel, by decide +kernel⟩, List.mem_of_getElem? (i := 52) (by decide +kernel), List.mem_of_getElem? (i := 720) (by decide +kernel), List.mem_of_getElem? (i := 721) (by decide +kernel)⟩
theorem lw_p60 : lw_okq (⟨"ShadowCourt$Market", "reckonRow", "([IIZ)V"⟩, 5) := ⟨⟨by decide +kernel, by decide +kernel⟩, List.mem_of_getElem? (i := 52) (by decide +kernel), List.mem_of_getElem? (i := 725) (by decide +kernel), List.mem_of_getElem? (i := 726) (by decide +kernel)⟩
theorem lw_p61 : lw_okq (⟨"ShadowCourt$Shadows", "layersAt", "(I)I"⟩, 4) := ⟨⟨by decide +kernel, by decide +kernel⟩, List.mem_of_getElem? (i := 158) (by decide +kernel), List.mem_of_getElem? (i := 731) (by decide +kernel), List.mem_of_getElem? (i := 732) (by decide +kernel)⟩
theorem lw_p62 : lw_okq (⟨"ShadowCourt", "canBeTried", "(I)Z"⟩, 12) := ⟨⟨by decide +kernel, by decide +kernel⟩, List.mem_of_getElem? (i := 16) (by decide +kernel), List.mem_of_getElem? (i := 740) (by decide +kernel), List.mem_of_getElem? (i := 741) (by decide +kernel)⟩
theorem lw_p63 : lw_okq (⟨"ShadowCourt$Foresight", "copyOfNow", "()LShadowCourt$Day;"⟩, 11) := ⟨⟨by decide +kernel, by decide +kernel⟩, List.mem_of_getElem? (i := 274) (by decide +kernel), List.mem_of_getElem? (i := 746) (by decide +kernel), List.mem_of_getElem? (i := 747) (by decide +kernel)⟩
def lw_privs_4 : List (MethodName × Nat) := [(⟨"ShadowCourt$Law", "tellJudge", "(II)V"⟩, 9), (⟨"ShadowCourt$Shadows", "fall", "(LShadowCourt$Market;III)V"⟩, 4), (⟨"ShadowCourt$Clock", "castOfLamp", "(LShadowCourt$Day;I)V"⟩, 6), (⟨"ShadowCourt$Clock", "lineUp", "(LShadowCourt$Day;I)I"⟩, 6), (⟨"ShadowCourt$Day", "mustServe", "(I)Z"⟩, 12), (⟨"ShadowCourt$Day", "hasFelon", "(I)Z"⟩, 12), (⟨"ShadowCourt$Clock", "tellFelon", "(LShadowCourt$Day;I)V"⟩, 6), (⟨"ShadowCourt$Law", "tellFelon", "(IIIII)V"⟩, 9), (⟨"ShadowCourt$Clock", "felonsGo", "(LShadowCourt$Day;IZ)V"⟩, 6), (⟨"ShadowCourt$Clock", "reachOf", "(LShadowCourt$Day;I)I"⟩, 6), (⟨"ShadowCourt$Clock", "findShadow", "(LShadowCourt$Day;II)I"⟩, 6), (⟨"ShadowCourt$Market", "stepsBetween", "(II)I"⟩, 5), (⟨"ShadowCourt$Market", "reckonRow", "([IIZ)V"⟩, 5), (⟨"ShadowCourt$Shadows", "layersAt", "(I)I"⟩, 4), (⟨"ShadowCourt", "canBeTried", "(I)Z"⟩, 12), (⟨"ShadowCourt$Foresight", "copyOfNow", "()LShadowCourt$Day;"⟩, 11)]
theorem lw_r4 : ∀ q ∈ lw_privs_4, lw_okq q := List.forall_mem_cons.mpr ⟨lw_p48, List.forall_mem_cons.mpr ⟨lw_p49, List.forall_mem_cons.mpr ⟨lw_p50, List.forall_mem_cons.mpr ⟨lw_p51, List.forall_mem_cons.mpr ⟨lw_p52, List.forall_mem_cons.mpr ⟨lw_p53, List.forall_mem_cons.mpr ⟨lw_p54, List.forall_mem_cons.mpr ⟨lw_p55, List.forall_mem_cons.mpr ⟨lw_p56, List.forall_mem_cons.mpr ⟨lw_p57, List.forall_mem_cons.mpr ⟨lw_p58, List.forall_mem_cons.mpr ⟨lw_p59, List.forall_mem_cons.mpr ⟨lw_p60, List.forall_mem_cons.mpr ⟨lw_p61, List.forall_mem_cons.mpr ⟨lw_p62, List.forall_mem_cons.mpr ⟨lw_p63, fun _ h => absurd h List.not_mem_nil⟩⟩⟩⟩⟩⟩⟩⟩⟩⟩⟩⟩⟩⟩⟩⟩
theorem lw_p64 : lw_okq (⟨"ShadowCourt$Day", "copyFrom", "(LShadowCourt$Day;)V"⟩, 12) := ⟨⟨by decide +kernel, by decide +kernel⟩, List.mem_of_getElem? (i := 210) (by decide +kernel), List.mem_of_getElem? (i := 750) (by decide +kernel), List.mem_of_getElem? (i := 751) (by decide +kernel)⟩
theorem lw_p65 : lw_okq (⟨"ShadowCourt$Day", "clearCounts", "()V"⟩, 12) := ⟨⟨by decide +kernel, by decide +kernel⟩, List.mem_of_getElem? (i := 210) (by decide +kernel), List.mem_of_getElem? (i := 754) (by decide +kernel), List.mem_of_getElem? (i := 755) (by decide +kernel)⟩
theorem lw_p66 : lw_okq (⟨"ShadowCourt$Day", "howManyDrowned", "()I"⟩, 12) := ⟨⟨by decide +kernel, by decide +kernel⟩, List.mem_of_getElem? (i := 210) (by decide +kernel), List.mem_of_getElem? (i := 758) (by decide +kernel), List.mem_of_getElem? (i := 759) (by decide +kernel)⟩
theorem lw_p67 : lw_okq (⟨"ShadowCourt$Day", "howManyOweNothing", "()I"⟩, 12) := ⟨⟨by decide +kernel, by decide +kernel⟩, List.mem_of_getElem? (i := 210) (by decide +kernel), List.mem_of_getElem? (i := 762) (by decide +kernel), List.mem_of_getElem? (i := 763) (by decide +kernel)⟩
theorem lw_p68 : lw_okq (⟨"ShadowCourt$Clock", "shadowsAt", "(LShadowCourt$Day;I)I"⟩, 6) := ⟨⟨by decide +kernel, by decide +kernel⟩, List.mem_of_getElem? (i := 152) (by decide +kernel), List.mem_of_getElem? (i := 771) (by decide +kernel), List.mem_of_getElem? (i := 772) (by decide +kernel)⟩
theorem lw_p69 : lw_okq (⟨"ShadowCourt$Clock", "castCloudless", "(LShadowCourt$Day;)V"⟩, 6) := ⟨⟨by decide +kernel, by decide +kernel⟩, List.mem_of_getElem? (i := 152) (by decide +kernel), List.mem_of_getElem? (i := 775) (by decide +kernel), List.mem_of_getElem? (i := 776) (by decide +kernel)⟩
theorem lw_p70 : lw_okq (⟨"ShadowCourt$Crowd", "most", "(LShadowCourt$Day;)I"⟩, 6) := ⟨⟨by decide +kernel, by decide +kernel⟩, List.mem_of_getElem? (i := 321) (by decide +kernel), List.mem_of_getElem? (i := 789) (by decide +kernel), List.mem_of_getElem? (i := 790) (by decide +kernel)⟩
theorem lw_p71 : lw_okq (⟨"ShadowCourt$Crowd", "findsPlace", "(LShadowCourt$Day;I)Z"⟩, 6) := ⟨⟨by decide +kernel, by decide +kernel⟩, List.mem_of_getElem? (i := 321) (by decide +kernel), List.mem_of_getElem? (i := 795) (by decide +kernel), List.mem_of_getElem? (i := 796) (by decide +kernel)⟩
theorem lw_p72 : lw_okq (⟨"ShadowCourt$Crowd", "canGo", "(LShadowCourt$Day;II)Z"⟩, 6) := ⟨⟨by decide +kernel, by decide +kernel⟩, List.mem_of_getElem? (i := 321) (by decide +kernel), List.mem_of_getElem? (i := 799) (by decide +kernel), List.mem_of_getElem? (i := 800) (by decide +kernel)⟩
theorem lw_p73 : lw_okq (⟨"ShadowCourt$Crowd", "handOn", "(I)V"⟩, 6) := ⟨⟨by decide +kernel, by decide +kernel⟩, List.mem_of_getElem? (i := 321) (by decide +kernel), List.mem_of_getElem? (i := 806) (by decide +kernel), List.mem_of_getElem? (i := 807) (by decide +kernel)⟩
theorem lw_p74 : lw_okq (⟨"ShadowCourt$Shadows", "howManyInMore", "()I"⟩, 4) := ⟨⟨by decide +kernel, by decide +kernel⟩, List.mem_of_getElem? (i := 158) (by decide +kernel), List.mem_of_getElem? (i := 810) (by decide +kernel), List.mem_of_getElem? (i := 811) (by decide +kernel)⟩
theorem lw_p75 : lw_okq (⟨"ShadowCourt$Foresight", "fewestSteps", "(III)I"⟩, 11) := ⟨⟨by decide +kernel, by decide +kernel⟩, List.mem_of_getElem? (i := 274) (by decide +kernel), List.mem_of_getElem? (i := 819) (by decide +kernel), List.mem_of_getElem? (i := 820) (by decide +kernel)⟩
theorem lw_p76 : lw_okq (⟨"ShadowCourt$Clock", "walkOn", "(LShadowCourt$Day;)Z"⟩, 6) := ⟨⟨by decide +kernel, by decide +kernel⟩, List.mem_of_getElem? (i := 152) (by decide +kernel), List.mem_of_getElem? (i := 827) (by decide +kernel), List.mem_of_getElem? (i := 828) (by decide +kernel)⟩
theorem lw_p77 : lw_okq (⟨"ShadowCourt$Foresight", "spreadSteps", "([I)V"⟩, 11) := ⟨⟨by decide +kernel, by decide +kernel⟩, List.mem_of_getElem? (i := 274) (by decide +kernel), List.mem_of_getElem? (i := 832) (by decide +kernel), List.mem_of_getElem? (i := 833) (by decide +kernel)⟩
theorem lw_p78 : lw_okq (⟨"ShadowCourt$Foresight", "oneStepMore", "(I)I"⟩, 11) := ⟨⟨by decide +kernel, by decide +kernel⟩, List.mem_of_getElem? (i := 274) (by decide +kernel), List.mem_of_getElem? (i := 837) (by decide +kernel), List.mem_of_getElem? (i := 838) (by decide +kernel)⟩
theorem lw_p79 : lw_okq (⟨"ShadowCourt$Foresight", "settle", "(II)V"⟩, 11) := ⟨⟨by decide +kernel, by decide +kernel⟩, List.mem_of_getElem? (i := 274) (by decide +kernel), List.mem_of_getElem? (i := 843) (by decide +kernel), List.mem_of_getElem? (i := 844) (by decide +kernel)⟩
def lw_privs_5 : List (MethodName × Nat) := [(⟨"ShadowCourt$Day", "copyFrom", "(LShadowCourt$Day;)V"⟩, 12), (⟨"ShadowCourt$Day", "clearCounts", "()V"⟩, 12), (⟨"ShadowCourt$Day", "howManyDrowned", "()I"⟩, 12), (⟨"ShadowCourt$Day", "howManyOweNothing", "()I"⟩, 12), (⟨"ShadowCourt$Clock", "shadowsAt", "(LShadowCourt$Day;I)I"⟩, 6), (⟨"ShadowCourt$Clock", "castCloudless", "(LShadowCourt$Day;)V"⟩, 6), (⟨"ShadowCourt$Crowd", "most", "(LShadowCourt$Day;)I"⟩, 6), (⟨"ShadowCourt$Crowd", "findsPlace", "(LShadowCourt$Day;I)Z"⟩, 6), (⟨"ShadowCourt$Crowd", "canGo", "(LShadowCourt$Day;II)Z"⟩, 6), (⟨"ShadowCourt$Crowd", "handOn", "(I)V"⟩, 6), (⟨"ShadowCourt$Shadows", "howManyInMore", "()I"⟩, 4), (⟨"ShadowCourt$Foresight", "fewestSteps", "(III)I"⟩, 11), (⟨"ShadowCourt$Clock", "walkOn", "(LShadowCourt$Day;)Z"⟩, 6), (⟨"ShadowCourt$Foresight", "spreadSteps", "([I)V"⟩, 11), (⟨"ShadowCourt$Foresight", "oneStepMore", "(I)I"⟩, 11), (⟨"ShadowCourt$Foresight", "settle", "(II)V"⟩, 11)]
theorem lw_r5 : ∀ q ∈ lw_privs_5, lw_okq q := List.forall_mem_cons.mpr ⟨lw_p64, List.forall_mem_cons.mpr ⟨lw_p65, List.forall_mem_cons.mpr ⟨lw_p66, List.forall_mem_cons.mpr ⟨lw_p67, List.forall_mem_cons.mpr ⟨lw_p68, List.forall_mem_cons.mpr ⟨lw_p69, List.forall_mem_cons.mpr ⟨lw_p70, List.forall_mem_cons.mpr ⟨lw_p71, List.forall_mem_cons.mpr ⟨lw_p72, List.forall_mem_cons.mpr ⟨lw_p73, List.forall_mem_cons.mpr ⟨lw_p74, List.forall_mem_cons.mpr ⟨lw_p75, List.forall_mem_cons.mpr ⟨lw_p76, List.forall_mem_cons.mpr ⟨lw_p77, List.forall_mem_cons.mpr ⟨lw_p78, List.forall_mem_cons.mpr ⟨lw_p79, fun _ h => absurd h List.not_mem_nil⟩⟩⟩⟩⟩⟩⟩⟩⟩⟩⟩⟩⟩⟩⟩⟩
theorem lw_p80 : lw_okq (⟨"ShadowCourt$Foresight", "leastOwedWay", "(II)I"⟩, 11) := ⟨⟨by decide +kernel, by decide +kernel⟩, List.mem_of_getElem? (i := 274) (by decide +kernel), List.mem_of_getElem? (i := 852) (by decide +kernel), List.mem_of_getElem? (i := 853) (by decide +kernel)⟩
theorem lw_p81 : lw_okq (⟨"ShadowCourt$Foresight", "stepAlone", "(I)[I"⟩, 11) := ⟨⟨by decide +kernel, by decide +kernel⟩, List.mem_of_getElem? (i := 274) (by decide +kernel), List.mem_of_getElem? (i := 857) (by decide +kernel), List.mem_of_getElem? (i := 858) (by decide +kernel)⟩
theorem lw_p82 : lw_okq (⟨"ShadowCourt$Foresight", "turnToNextWay", "(I)I"⟩, 11) := ⟨⟨by decide +kernel, by decide +kernel⟩, List.mem_of_getElem? (i := 274) (by decide +kernel), List.mem_of_getElem? (i := 863) (by decide +kernel), List.mem_of_getElem? (i := 864) (by decide +kernel)⟩
theorem lw_p83 : lw_okq (⟨"ShadowCourt$Foresight", "bestAhead", "(I)I"⟩, 11) := ⟨⟨by decide +kernel, by decide +kernel⟩, List.mem_of_getElem? (i := 274) (by decide +kernel), List.mem_of_getElem? (i := 871) (by decide +kernel), List.mem_of_getElem? (i := 872) (by decide +kernel)⟩
theorem lw_p84 : lw_okq (⟨"ShadowCourt$Foresight", "countShadedMinutes", "(I)V"⟩, 11) := ⟨⟨by decide +kernel, by decide +kernel⟩, List.mem_of_getElem? (i := 274) (by decide +kernel), List.mem_of_getElem? (i := 880) (by decide +kernel), List.mem_of_getElem? (i := 881) (by decide +kernel)⟩
theorem lw_p85 : lw_okq (⟨"ShadowCourt$Foresight", "howManyNeverShaded", "()I"⟩, 11) := ⟨⟨by decide +kernel, by decide +kernel⟩, List.mem_of_getElem? (i := 274) (by decide +kernel), List.mem_of_getElem? (i := 884) (by decide +kernel), List.mem_of_getElem? (i := 885) (by decide +kernel)⟩
theorem lw_p86 : lw_okq (⟨"ShadowCourt$Foresight", "mostShaded", "()I"⟩, 11) := ⟨⟨by decide +kernel, by decide +kernel⟩, List.mem_of_getElem? (i := 274) (by decide +kernel), List.mem_of_getElem? (i := 889) (by decide +kernel), List.mem_of_getElem? (i := 890) (by decide +kernel)⟩
theorem lw_p87 : lw_okq (⟨"ShadowCourt", "isFreeForLamp", "(I)Z"⟩, 12) := ⟨⟨by decide +kernel, by decide +kernel⟩, List.mem_of_getElem? (i := 16) (by decide +kernel), List.mem_of_getElem? (i := 897) (by decide +kernel), List.mem_of_getElem? (i := 898) (by decide +kernel)⟩
theorem lw_p88 : lw_okq (⟨"ShadowCourt$Clock", "spotsInLampShadows", "(LShadowCourt$Day;I)I"⟩, 6) := ⟨⟨by decide +kernel, by decide +kernel⟩, List.mem_of_getElem? (i := 152) (by decide +kernel), List.mem_of_getElem? (i := 903) (by decide +kernel), List.mem_of_getElem? (i := 904) (by decide +kernel)⟩
theorem lw_p89 : lw_okq (⟨"ShadowCourt", "hasBytesBeyond", "(III)Z"⟩, 12) := ⟨⟨by decide +kernel, by decide +kernel⟩, List.mem_of_getElem? (i := 16) (by decide +kernel), List.mem_of_getElem? (i := 912) (by decide +kernel), List.mem_of_getElem? (i := 913) (by decide +kernel)⟩
theorem lw_p90 : lw_okq (⟨"ShadowCourt$Tape", "byteAt", "(I)I"⟩, 5) := ⟨⟨by decide +kernel, by decide +kernel⟩, List.mem_of_getElem? (i := 24) (by decide +kernel), List.mem_of_getElem? (i := 916) (by decide +kernel), List.mem_of_getElem? (i := 917) (by decide +kernel)⟩
theorem lw_p91 : lw_okq (⟨"ShadowCourt", "printMakers", "(I)I"⟩, 12) := ⟨⟨by decide +kernel, by decide +kernel⟩, List.mem_of_getElem? (i := 16) (by decide +kernel), List.mem_of_getElem? (i := 920) (by decide +kernel), List.mem_of_getElem? (i := 921) (by decide +kernel)⟩
theorem lw_p92 : lw_okq (⟨"ShadowCourt", "brokenPrint", "(I)I"⟩, 12) := ⟨⟨by decide +kernel, by decide +kernel⟩, List.mem_of_getElem? (i := 16) (by decide +kernel), List.mem_of_getElem? (i := 924) (by decide +kernel), List.mem_of_getElem? (i := 925) (by decide +kernel)⟩
theorem lw_p93 : lw_okq (⟨"ShadowCourt$Market", "isDryWalk", "(II)Z"⟩, 5) := ⟨⟨by decide +kernel, by decide +kernel⟩, List.mem_of_getElem? (i := 52) (by decide +kernel), List.mem_of_getElem? (i := 928) (by decide +kernel), List.mem_of_getElem? (i := 929) (by decide +kernel)⟩
theorem lw_p94 : lw_okq (⟨"ShadowCourt", "printStarters", "()I"⟩, 12) := ⟨⟨by decide +kernel, by decide +kernel⟩, List.mem_of_getElem? (i := 16) (by decide +kernel), List.mem_of_getElem? (i := 932) (by decide +kernel), List.mem_of_getElem? (i := 933) (by decide +kernel)⟩
theorem lw_p95 : lw_okq (⟨"ShadowCourt", "printsFailAt", "(I)I"⟩, 12) := ⟨⟨by decide +kernel, by decide +kernel⟩, List.mem_of_getElem? (i := 16) (by decide +kernel), List.mem_of_getElem? (i := 936) (by decide +kernel), List.mem_of_getElem? (i := 937) (by decide +kernel)⟩
def lw_privs_6 : List (MethodName × Nat) := [(⟨"ShadowCourt$Foresight", "leastOwedWay", "(II)I"⟩, 11), (⟨"ShadowCourt$Foresight", "stepAlone", "(I)[I"⟩, 11), (⟨"ShadowCourt$Foresight", "turnToNextWay", "(I)I"⟩, 11), (⟨"ShadowCourt$Foresight", "bestAhead", "(I)I"⟩, 11), (⟨"ShadowCourt$Foresight", "countShadedMinutes", "(I)V"⟩, 11), (⟨"ShadowCourt$Foresight", "howManyNeverShaded", "()I"⟩, 11), (⟨"ShadowCourt$Foresight", "mostShaded", "()I"⟩, 11), (⟨"ShadowCourt", "isFreeForLamp", "(I)Z"⟩, 12), (⟨"ShadowCourt$Clock", "spotsInLampShadows", "(LShadowCourt$Day;I)I"⟩, 6), (⟨"ShadowCourt", "hasBytesBeyond", "(III)Z"⟩, 12), (⟨"ShadowCourt$Tape", "byteAt", "(I)I"⟩, 5), (⟨"ShadowCourt", "printMakers", "(I)I"⟩, 12), (⟨"ShadowCourt", "brokenPrint", "(I)I"⟩, 12), (⟨"ShadowCourt$Market", "isDryWalk", "(II)Z"⟩, 5), (⟨"ShadowCourt", "printStarters", "()I"⟩, 12), (⟨"ShadowCourt", "printsFailAt", "(I)I"⟩, 12)]
theorem lw_r6 : ∀ q ∈ lw_privs_6, lw_okq q := List.forall_mem_cons.mpr ⟨lw_p80, List.forall_mem_cons.mpr ⟨lw_p81, List.forall_mem_cons.mpr ⟨lw_p82, List.forall_mem_cons.mpr ⟨lw_p83, List.forall_mem_cons.mpr ⟨lw_p84, List.forall_mem_cons.mpr ⟨lw_p85, List.forall_mem_cons.mpr ⟨lw_p86, List.forall_mem_cons.mpr ⟨lw_p87, List.forall_mem_cons.mpr ⟨lw_p88, List.forall_mem_cons.mpr ⟨lw_p89, List.forall_mem_cons.mpr ⟨lw_p90, List.forall_mem_cons.mpr ⟨lw_p91, List.forall_mem_cons.mpr ⟨lw_p92, List.forall_mem_cons.mpr ⟨lw_p93, List.forall_mem_cons.mpr ⟨lw_p94, List.forall_mem_cons.mpr ⟨lw_p95, fun _ h => absurd h List.not_mem_nil⟩⟩⟩⟩⟩⟩⟩⟩⟩⟩⟩⟩⟩⟩⟩⟩
theorem lw_p96 : lw_okq (⟨"ShadowCourt", "cloudySets", "(III)I"⟩, 12) := ⟨⟨by decide +kernel, by decide +kernel⟩, List.mem_of_getElem? (i := 16) (by decide +kernel), List.mem_of_getElem? (i := 947) (by decide +kernel), List.mem_of_getElem? (i := 948) (by decide +kernel)⟩
theorem lw_p97 : lw_okq (⟨"ShadowCourt", "servedOutside", "(II)I"⟩, 12) := ⟨⟨by decide +kernel, by decide +kernel⟩, List.mem_of_getElem? (i := 16) (by decide +kernel), List.mem_of_getElem? (i := 951) (by decide +kernel), List.mem_of_getElem? (i := 952) (by decide +kernel)⟩
theorem lw_p98 : lw_okq (⟨"ShadowCourt", "areAllPlaces", "(II)Z"⟩, 12) := ⟨⟨by decide +kernel, by decide +kernel⟩, List.mem_of_getElem? (i := 16) (by decide +kernel), List.mem_of_getElem? (i := 959) (by decide +kernel), List.mem_of_getElem? (i := 960) (by decide +kernel)⟩
theorem lw_p99 : lw_okq (⟨"ShadowCourt", "sentencesTogether", "(III)I"⟩, 12) := ⟨⟨by decide +kernel, by decide +kernel⟩, List.mem_of_getElem? (i := 16) (by decide +kernel), List.mem_of_getElem? (i := 963) (by decide +kernel), List.mem_of_getElem? (i := 964) (by decide +kernel)⟩
theorem lw_p100 : lw_okq (⟨"ShadowCourt", "groupSentences", "(II)V"⟩, 12) := ⟨⟨by decide +kernel, by decide +kernel⟩, List.mem_of_getElem? (i := 16) (by decide +kernel), List.mem_of_getElem? (i := 967) (by decide +kernel), List.mem_of_getElem? (i := 968) (by decide +kernel)⟩
theorem lw_p101 : lw_okq (⟨"ShadowCourt", "joinGroups", "(III)V"⟩, 12) := ⟨⟨by decide +kernel, by decide +kernel⟩, List.mem_of_getElem? (i := 16) (by decide +kernel), List.mem_of_getElem? (i := 971) (by decide +kernel), List.mem_of_getElem? (i := 972) (by decide +kernel)⟩
theorem lw_p102 : lw_okq (⟨"ShadowCourt", "longestOfGroup", "(II)I"⟩, 12) := ⟨⟨by decide +kernel, by decide +kernel⟩, List.mem_of_getElem? (i := 16) (by decide +kernel), List.mem_of_getElem? (i := 975) (by decide +kernel), List.mem_of_getElem? (i := 976) (by decide +kernel)⟩
theorem lw_p103 : lw_okq (⟨"ShadowCourt$Tape", "numberAt", "(I)I"⟩, 5) := ⟨⟨by decide +kernel, by decide +kernel⟩, List.mem_of_getElem? (i := 24) (by decide +kernel), List.mem_of_getElem? (i := 1001) (by decide +kernel), List.mem_of_getElem? (i := 1002) (by decide +kernel)⟩
theorem lw_p104 : lw_okq (⟨"ShadowCourtModel", "types", "(I)V"⟩, 61) := ⟨⟨by decide +kernel, by decide +kernel⟩, List.mem_of_getElem? (i := 1013) (by decide +kernel), List.mem_of_getElem? (i := 1208) (by decide +kernel), List.mem_of_getElem? (i := 1209) (by decide +kernel)⟩
theorem lw_p105 : lw_okq (⟨"ShadowCourtModel", "readsRow", "(I)Z"⟩, 61) := ⟨⟨by decide +kernel, by decide +kernel⟩, List.mem_of_getElem? (i := 1013) (by decide +kernel), List.mem_of_getElem? (i := 1219) (by decide +kernel), List.mem_of_getElem? (i := 1220) (by decide +kernel)⟩
theorem lw_p106 : lw_okq (⟨"ShadowCourtModel", "here", "()I"⟩, 61) := ⟨⟨by decide +kernel, by decide +kernel⟩, List.mem_of_getElem? (i := 1013) (by decide +kernel), List.mem_of_getElem? (i := 1223) (by decide +kernel), List.mem_of_getElem? (i := 1224) (by decide +kernel)⟩
theorem lw_p107 : lw_okq (⟨"ShadowCourtModel", "wrongAt", "(II)Z"⟩, 61) := ⟨⟨by decide +kernel, by decide +kernel⟩, List.mem_of_getElem? (i := 1013) (by decide +kernel), List.mem_of_getElem? (i := 1233) (by decide +kernel), List.mem_of_getElem? (i := 1234) (by decide +kernel)⟩
theorem lw_p108 : lw_okq (⟨"ShadowCourtModel", "takes", "(I)Z"⟩, 61) := ⟨⟨by decide +kernel, by decide +kernel⟩, List.mem_of_getElem? (i := 1013) (by decide +kernel), List.mem_of_getElem? (i := 1237) (by decide +kernel), List.mem_of_getElem? (i := 1238) (by decide +kernel)⟩
theorem lw_p109 : lw_okq (⟨"ShadowCourtModel", "isJudge", "(I)Z"⟩, 61) := ⟨⟨by decide +kernel, by decide +kernel⟩, List.mem_of_getElem? (i := 1013) (by decide +kernel), List.mem_of_getElem? (i := 1241) (by decide +kernel), List.mem_of_getElem? (i := 1242) (by decide +kernel)⟩
theorem lw_p110 : lw_okq (⟨"ShadowCourtModel", "isGround", "(I)Z"⟩, 61) := ⟨⟨by decide +kernel, by decide +kernel⟩, List.mem_of_getElem? (i := 1013) (by decide +kernel), List.mem_of_getElem? (i := 1251) (by decide +kernel), List.mem_of_getElem? (i := 1252) (by decide +kernel)⟩
theorem lw_p111 : lw_okq (⟨"ShadowCourtModel", "isFelon", "(I)Z"⟩, 61) := ⟨⟨by decide +kernel, by decide +kernel⟩, List.mem_of_getElem? (i := 1013) (by decide +kernel), List.mem_of_getElem? (i := 1255) (by decide +kernel), List.mem_of_getElem? (i := 1256) (by decide +kernel)⟩
def lw_privs_7 : List (MethodName × Nat) := [(⟨"ShadowCourt", "cloudySets", "(III)I"⟩, 12), (⟨"ShadowCourt", "servedOutside", "(II)I"⟩, 12), (⟨"ShadowCourt", "areAllPlaces", "(II)Z"⟩, 12), (⟨"ShadowCourt", "sentencesTogether", "(III)I"⟩, 12), (⟨"ShadowCourt", "groupSentences", "(II)V"⟩, 12), (⟨"ShadowCourt", "joinGroups", "(III)V"⟩, 12), (⟨"ShadowCourt", "longestOfGroup", "(II)I"⟩, 12), (⟨"ShadowCourt$Tape", "numberAt", "(I)I"⟩, 5), (⟨"ShadowCourtModel", "types", "(I)V"⟩, 61), (⟨"ShadowCourtModel", "readsRow", "(I)Z"⟩, 61), (⟨"ShadowCourtModel", "here", "()I"⟩, 61), (⟨"ShadowCourtModel", "wrongAt", "(II)Z"⟩, 61), (⟨"ShadowCourtModel", "takes", "(I)Z"⟩, 61), (⟨"ShadowCourtModel", "isJudge", "(I)Z"⟩, 61), (⟨"ShadowCourtModel", "isGround", "(I)Z"⟩, 61), (⟨"ShadowCourtModel", "isFelon", "(I)Z"⟩, 61)]
theorem lw_r7 : ∀ q ∈ lw_privs_7, lw_okq q := List.forall_mem_cons.mpr ⟨lw_p96, List.forall_mem_cons.mpr ⟨lw_p97, List.forall_mem_cons.mpr ⟨lw_p98, List.forall_mem_cons.mpr ⟨lw_p99, List.forall_mem_cons.mpr ⟨lw_p100, List.forall_mem_cons.mpr ⟨lw_p101, List.forall_mem_cons.mpr ⟨lw_p102, List.forall_mem_cons.mpr ⟨lw_p103, List.forall_mem_cons.mpr ⟨lw_p104, List.forall_mem_cons.mpr ⟨lw_p105, List.forall_mem_cons.mpr ⟨lw_p106, List.forall_mem_cons.mpr ⟨lw_p107, List.forall_mem_cons.mpr ⟨lw_p108, List.forall_mem_cons.mpr ⟨lw_p109, List.forall_mem_cons.mpr ⟨lw_p110, List.forall_mem_cons.mpr ⟨lw_p111, fun _ h => absurd h List.not_mem_nil⟩⟩⟩⟩⟩⟩⟩⟩⟩⟩⟩⟩⟩⟩⟩⟩
theorem lw_p112 : lw_okq (⟨"ShadowCourtModel", "readsStep", "()Z"⟩, 61) := ⟨⟨by decide +kernel, by decide +kernel⟩, List.mem_of_getElem? (i := 1013) (by decide +kernel), List.mem_of_getElem? (i := 1278) (by decide +kernel), List.mem_of_getElem? (i := 1279) (by decide +kernel)⟩
theorem lw_p113 : lw_okq (⟨"ShadowCourtModel", "readsTimes", "()V"⟩, 61) := ⟨⟨by decide +kernel, by decide +kernel⟩, List.mem_of_getElem? (i := 1013) (by decide +kernel), List.mem_of_getElem? (i := 1282) (by decide +kernel), List.mem_of_getElem? (i := 1283) (by decide +kernel)⟩
theorem lw_p114 : lw_okq (⟨"ShadowCourtModel", "repeats", "(III)Z"⟩, 61) := ⟨⟨by decide +kernel, by decide +kernel⟩, List.mem_of_getElem? (i := 1013) (by decide +kernel), List.mem_of_getElem? (i := 1289) (by decide +kernel), List.mem_of_getElem? (i := 1290) (by decide +kernel)⟩
theorem lw_p115 : lw_okq (⟨"ShadowCourtModel", "readsClause", "()Z"⟩, 61) := ⟨⟨by decide +kernel, by decide +kernel⟩, List.mem_of_getElem? (i := 1013) (by decide +kernel), List.mem_of_getElem? (i := 1297) (by decide +kernel), List.mem_of_getElem? (i := 1298) (by decide +kernel)⟩
theorem lw_p116 : lw_okq (⟨"ShadowCourtModel", "readsSum", "()Z"⟩, 61) := ⟨⟨by decide +kernel, by decide +kernel⟩, List.mem_of_getElem? (i := 1013) (by decide +kernel), List.mem_of_getElem? (i := 1304) (by decide +kernel), List.mem_of_getElem? (i := 1305) (by decide +kernel)⟩
theorem lw_p117 : lw_okq (⟨"ShadowCourtModel", "readsFactor", "()Z"⟩, 61) := ⟨⟨by decide +kernel, by decide +kernel⟩, List.mem_of_getElem? (i := 1013) (by decide +kernel), List.mem_of_getElem? (i := 1308) (by decide +kernel), List.mem_of_getElem? (i := 1309) (by decide +kernel)⟩
theorem lw_p118 : lw_okq (⟨"ShadowCourtModel", "opens", "(I)Z"⟩, 61) := ⟨⟨by decide +kernel, by decide +kernel⟩, List.mem_of_getElem? (i := 1013) (by decide +kernel), List.mem_of_getElem? (i := 1312) (by decide +kernel), List.mem_of_getElem? (i := 1313) (by decide +kernel)⟩
theorem lw_p119 : lw_okq (⟨"ShadowCourtModel", "isDigit", "()Z"⟩, 61) := ⟨⟨by decide +kernel, by decide +kernel⟩, List.mem_of_getElem? (i := 1013) (by decide +kernel), List.mem_of_getElem? (i := 1317) (by decide +kernel), List.mem_of_getElem? (i := 1318) (by decide +kernel)⟩
theorem lw_p120 : lw_okq (⟨"ShadowCourtModel", "readsNumber", "()Z"⟩, 61) := ⟨⟨by decide +kernel, by decide +kernel⟩, List.mem_of_getElem? (i := 1013) (by decide +kernel), List.mem_of_getElem? (i := 1321) (by decide +kernel), List.mem_of_getElem? (i := 1322) (by decide +kernel)⟩
theorem lw_p121 : lw_okq (⟨"ShadowCourtModel", "notes", "(II)V"⟩, 61) := ⟨⟨by decide +kernel, by decide +kernel⟩, List.mem_of_getElem? (i := 1013) (by decide +kernel), List.mem_of_getElem? (i := 1325) (by decide +kernel), List.mem_of_getElem? (i := 1326) (by decide +kernel)⟩
theorem lw_p122 : lw_okq (⟨"ShadowCourtModel", "closesSums", "(Z)V"⟩, 61) := ⟨⟨by decide +kernel, by decide +kernel⟩, List.mem_of_getElem? (i := 1013) (by decide +kernel), List.mem_of_getElem? (i := 1335) (by decide +kernel), List.mem_of_getElem? (i := 1336) (by decide +kernel)⟩
theorem lw_p123 : lw_okq (⟨"ShadowCourtModel", "waitTop", "()I"⟩, 61) := ⟨⟨by decide +kernel, by decide +kernel⟩, List.mem_of_getElem? (i := 1013) (by decide +kernel), List.mem_of_getElem? (i := 1339) (by decide +kernel), List.mem_of_getElem? (i := 1340) (by decide +kernel)⟩
theorem lw_p124 : lw_okq (⟨"ShadowCourtModel", "hasOpenSum", "(I)Z"⟩, 61) := ⟨⟨by decide +kernel, by decide +kernel⟩, List.mem_of_getElem? (i := 1013) (by decide +kernel), List.mem_of_getElem? (i := 1343) (by decide +kernel), List.mem_of_getElem? (i := 1344) (by decide +kernel)⟩
theorem lw_p125 : lw_okq (⟨"ShadowCourtModel", "readsCondition", "()Z"⟩, 61) := ⟨⟨by decide +kernel, by decide +kernel⟩, List.mem_of_getElem? (i := 1013) (by decide +kernel), List.mem_of_getElem? (i := 1347) (by decide +kernel), List.mem_of_getElem? (i := 1348) (by decide +kernel)⟩
theorem lw_p126 : lw_okq (⟨"ShadowCourtModel", "readsCompared", "()Z"⟩, 61) := ⟨⟨by decide +kernel, by decide +kernel⟩, List.mem_of_getElem? (i := 1013) (by decide +kernel), List.mem_of_getElem? (i := 1351) (by decide +kernel), List.mem_of_getElem? (i := 1352) (by decide +kernel)⟩
theorem lw_p127 : lw_okq (⟨"ShadowCourtModel", "endsPiece", "()V"⟩, 61) := ⟨⟨by decide +kernel, by decide +kernel⟩, List.mem_of_getElem? (i := 1013) (by decide +kernel), List.mem_of_getElem? (i := 1355) (by decide +kernel), List.mem_of_getElem? (i := 1356) (by decide +kernel)⟩
def lw_privs_8 : List (MethodName × Nat) := [(⟨"ShadowCourtModel", "readsStep", "()Z"⟩, 61), (⟨"ShadowCourtModel", "readsTimes", "()V"⟩, 61), (⟨"ShadowCourtModel", "repeats", "(III)Z"⟩, 61), (⟨"ShadowCourtModel", "readsClause", "()Z"⟩, 61), (⟨"ShadowCourtModel", "readsSum", "()Z"⟩, 61), (⟨"ShadowCourtModel", "readsFactor", "()Z"⟩, 61), (⟨"ShadowCourtModel", "opens", "(I)Z"⟩, 61), (⟨"ShadowCourtModel", "isDigit", "()Z"⟩, 61), (⟨"ShadowCourtModel", "readsNumber", "()Z"⟩, 61), (⟨"ShadowCourtModel", "notes", "(II)V"⟩, 61), (⟨"ShadowCourtModel", "closesSums", "(Z)V"⟩, 61), (⟨"ShadowCourtModel", "waitTop", "()I"⟩, 61), (⟨"ShadowCourtModel", "hasOpenSum", "(I)Z"⟩, 61), (⟨"ShadowCourtModel", "readsCondition", "()Z"⟩, 61), (⟨"ShadowCourtModel", "readsCompared", "()Z"⟩, 61), (⟨"ShadowCourtModel", "endsPiece", "()V"⟩, 61)]
theorem lw_r8 : ∀ q ∈ lw_privs_8, lw_okq q := List.forall_mem_cons.mpr ⟨lw_p112, List.forall_mem_cons.mpr ⟨lw_p113, List.forall_mem_cons.mpr ⟨lw_p114, List.forall_mem_cons.mpr ⟨lw_p115, List.forall_mem_cons.mpr ⟨lw_p116, List.forall_mem_cons.mpr ⟨lw_p117, List.forall_mem_cons.mpr ⟨lw_p118, List.forall_mem_cons.mpr ⟨lw_p119, List.forall_mem_cons.mpr ⟨lw_p120, List.forall_mem_cons.mpr ⟨lw_p121, List.forall_mem_cons.mpr ⟨lw_p122, List.forall_mem_cons.mpr ⟨lw_p123, List.forall_mem_cons.mpr ⟨lw_p124, List.forall_mem_cons.mpr ⟨lw_p125, List.forall_mem_cons.mpr ⟨lw_p126, List.forall_mem_cons.mpr ⟨lw_p127, fun _ h => absurd h List.not_mem_nil⟩⟩⟩⟩⟩⟩⟩⟩⟩⟩⟩⟩⟩⟩⟩⟩
theorem lw_p128 : lw_okq (⟨"ShadowCourtModel", "lands", "(Z)V"⟩, 61) := ⟨⟨by decide +kernel, by decide +kernel⟩, List.mem_of_getElem? (i := 1013) (by decide +kernel), List.mem_of_getElem? (i := 1359) (by decide +kernel), List.mem_of_getElem? (i := 1360) (by decide +kernel)⟩
theorem lw_p129 : lw_okq (⟨"ShadowCourtModel", "jumps", "(I)V"⟩, 61) := ⟨⟨by decide +kernel, by decide +kernel⟩, List.mem_of_getElem? (i := 1013) (by decide +kernel), List.mem_of_getElem? (i := 1363) (by decide +kernel), List.mem_of_getElem? (i := 1364) (by decide +kernel)⟩
theorem lw_p130 : lw_okq (⟨"ShadowCourtModel", "minutesGo", "(I)V"⟩, 61) := ⟨⟨by decide +kernel, by decide +kernel⟩, List.mem_of_getElem? (i := 1013) (by decide +kernel), List.mem_of_getElem? (i := 1371) (by decide +kernel), List.mem_of_getElem? (i := 1372) (by decide +kernel)⟩
theorem lw_p131 : lw_okq (⟨"ShadowCourtModel", "begins", "()V"⟩, 61) := ⟨⟨by decide +kernel, by decide +kernel⟩, List.mem_of_getElem? (i := 1013) (by decide +kernel), List.mem_of_getElem? (i := 1375) (by decide +kernel), List.mem_of_getElem? (i := 1376) (by decide +kernel)⟩
theorem lw_p132 : lw_okq (⟨"ShadowCourtModel", "walksOn", "(I)V"⟩, 61) := ⟨⟨by decide +kernel, by decide +kernel⟩, List.mem_of_getElem? (i := 1013) (by decide +kernel), List.mem_of_getElem? (i := 1379) (by decide +kernel), List.mem_of_getElem? (i := 1380) (by decide +kernel)⟩
theorem lw_p133 : lw_okq (⟨"ShadowCourtModel", "steps", "(II)V"⟩, 61) := ⟨⟨by decide +kernel, by decide +kernel⟩, List.mem_of_getElem? (i := 1013) (by decide +kernel), List.mem_of_getElem? (i := 1383) (by decide +kernel), List.mem_of_getElem? (i := 1384) (by decide +kernel)⟩
theorem lw_p134 : lw_okq (⟨"ShadowCourtModel", "shadesGo", "()V"⟩, 61) := ⟨⟨by decide +kernel, by decide +kernel⟩, List.mem_of_getElem? (i := 1013) (by decide +kernel), List.mem_of_getElem? (i := 1396) (by decide +kernel), List.mem_of_getElem? (i := 1397) (by decide +kernel)⟩
theorem lw_p135 : lw_okq (⟨"ShadowCourtModel", "draws", "()I"⟩, 61) := ⟨⟨by decide +kernel, by decide +kernel⟩, List.mem_of_getElem? (i := 1013) (by decide +kernel), List.mem_of_getElem? (i := 1400) (by decide +kernel), List.mem_of_getElem? (i := 1401) (by decide +kernel)⟩
theorem lw_p136 : lw_okq (⟨"ShadowCourtModel", "feels", "(I)V"⟩, 61) := ⟨⟨by decide +kernel, by decide +kernel⟩, List.mem_of_getElem? (i := 1013) (by decide +kernel), List.mem_of_getElem? (i := 1405) (by decide +kernel), List.mem_of_getElem? (i := 1406) (by decide +kernel)⟩
theorem lw_p137 : lw_okq (⟨"ShadowCourtModel", "byLaw", "(II)I"⟩, 61) := ⟨⟨by decide +kernel, by decide +kernel⟩, List.mem_of_getElem? (i := 1013) (by decide +kernel), List.mem_of_getElem? (i := 1409) (by decide +kernel), List.mem_of_getElem? (i := 1410) (by decide +kernel)⟩
theorem lw_p138 : lw_okq (⟨"ShadowCourtModel", "comesTo", "(II)I"⟩, 61) := ⟨⟨by decide +kernel, by decide +kernel⟩, List.mem_of_getElem? (i := 1013) (by decide +kernel), List.mem_of_getElem? (i := 1413) (by decide +kernel), List.mem_of_getElem? (i := 1414) (by decide +kernel)⟩
theorem lw_p139 : lw_okq (⟨"ShadowCourtModel", "laysShades", "(IZ)V"⟩, 61) := ⟨⟨by decide +kernel, by decide +kernel⟩, List.mem_of_getElem? (i := 1013) (by decide +kernel), List.mem_of_getElem? (i := 1420) (by decide +kernel), List.mem_of_getElem? (i := 1421) (by decide +kernel)⟩
theorem lw_p140 : lw_okq (⟨"ShadowCourtModel", "bares", "()V"⟩, 61) := ⟨⟨by decide +kernel, by decide +kernel⟩, List.mem_of_getElem? (i := 1013) (by decide +kernel), List.mem_of_getElem? (i := 1424) (by decide +kernel), List.mem_of_getElem? (i := 1425) (by decide +kernel)⟩
theorem lw_p141 : lw_okq (⟨"ShadowCourtModel", "fallsOf", "(II)V"⟩, 61) := ⟨⟨by decide +kernel, by decide +kernel⟩, List.mem_of_getElem? (i := 1013) (by decide +kernel), List.mem_of_getElem? (i := 1428) (by decide +kernel), List.mem_of_getElem? (i := 1429) (by decide +kernel)⟩
theorem lw_p142 : lw_okq (⟨"ShadowCourtModel", "falls", "(III)V"⟩, 61) := ⟨⟨by decide +kernel, by decide +kernel⟩, List.mem_of_getElem? (i := 1013) (by decide +kernel), List.mem_of_getElem? (i := 1432) (by decide +kernel), List.mem_of_getElem? (i := 1433) (by decide +kernel)⟩
theorem lw_p143 : lw_okq (⟨"ShadowCourtModel", "isNight", "(I)Z"⟩, 61) := ⟨⟨by decide +kernel, by decide +kernel⟩, List.mem_of_getElem? (i := 1013) (by decide +kernel), List.mem_of_getElem? (i := 1436) (by decide +kernel), List.mem_of_getElem? (i := 1437) (by decide +kernel)⟩
def lw_privs_9 : List (MethodName × Nat) := [(⟨"ShadowCourtModel", "lands", "(Z)V"⟩, 61), (⟨"ShadowCourtModel", "jumps", "(I)V"⟩, 61), (⟨"ShadowCourtModel", "minutesGo", "(I)V"⟩, 61), (⟨"ShadowCourtModel", "begins", "()V"⟩, 61), (⟨"ShadowCourtModel", "walksOn", "(I)V"⟩, 61), (⟨"ShadowCourtModel", "steps", "(II)V"⟩, 61), (⟨"ShadowCourtModel", "shadesGo", "()V"⟩, 61), (⟨"ShadowCourtModel", "draws", "()I"⟩, 61), (⟨"ShadowCourtModel", "feels", "(I)V"⟩, 61), (⟨"ShadowCourtModel", "byLaw", "(II)I"⟩, 61), (⟨"ShadowCourtModel", "comesTo", "(II)I"⟩, 61), (⟨"ShadowCourtModel", "laysShades", "(IZ)V"⟩, 61), (⟨"ShadowCourtModel", "bares", "()V"⟩, 61), (⟨"ShadowCourtModel", "fallsOf", "(II)V"⟩, 61), (⟨"ShadowCourtModel", "falls", "(III)V"⟩, 61), (⟨"ShadowCourtModel", "isNight", "(I)Z"⟩, 61)]
theorem lw_r9 : ∀ q ∈ lw_privs_9, lw_okq q := List.forall_mem_cons.mpr ⟨lw_p128, List.forall_mem_cons.mpr ⟨lw_p129, List.forall_mem_cons.mpr ⟨lw_p130, List.forall_mem_cons.mpr ⟨lw_p131, List.forall_mem_cons.mpr ⟨lw_p132, List.forall_mem_cons.mpr ⟨lw_p133, List.forall_mem_cons.mpr ⟨lw_p134, List.forall_mem_cons.mpr ⟨lw_p135, List.forall_mem_cons.mpr ⟨lw_p136, List.forall_mem_cons.mpr ⟨lw_p137, List.forall_mem_cons.mpr ⟨lw_p138, List.forall_mem_cons.mpr ⟨lw_p139, List.forall_mem_cons.mpr ⟨lw_p140, List.forall_mem_cons.mpr ⟨lw_p141, List.forall_mem_cons.mpr ⟨lw_p142, List.forall_mem_cons.mpr ⟨lw_p143, fun _ h => absurd h List.not_mem_nil⟩⟩⟩⟩⟩⟩⟩⟩⟩⟩⟩⟩⟩⟩⟩⟩
theorem lw_p144 : lw_okq (⟨"ShadowCourtModel", "fallsByLamps", "()V"⟩, 61) := ⟨⟨by decide +kernel, by decide +kernel⟩, List.mem_of_getElem? (i := 1013) (by decide +kernel), List.mem_of_getElem? (i := 1440) (by decide +kernel), List.mem_of_getElem? (i := 1441) (by decide +kernel)⟩
theorem lw_p145 : lw_okq (⟨"ShadowCourtModel", "fallsBehind", "(II)V"⟩, 61) := ⟨⟨by decide +kernel, by decide +kernel⟩, List.mem_of_getElem? (i := 1013) (by decide +kernel), List.mem_of_getElem? (i := 1444) (by decide +kernel), List.mem_of_getElem? (i := 1445) (by decide +kernel)⟩
theorem lw_p146 : lw_okq (⟨"ShadowCourtModel", "laysOrder", "()I"⟩, 61) := ⟨⟨by decide +kernel, by decide +kernel⟩, List.mem_of_getElem? (i := 1013) (by decide +kernel), List.mem_of_getElem? (i := 1448) (by decide +kernel), List.mem_of_getElem? (i := 1449) (by decide +kernel)⟩
theorem lw_p147 : lw_okq (⟨"ShadowCourtModel", "owes", "(I)Z"⟩, 61) := ⟨⟨by decide +kernel, by decide +kernel⟩, List.mem_of_getElem? (i := 1013) (by decide +kernel), List.mem_of_getElem? (i := 1452) (by decide +kernel), List.mem_of_getElem? (i := 1453) (by decide +kernel)⟩
theorem lw_p148 : lw_okq (⟨"ShadowCourtModel", "byFelon", "(III)I"⟩, 61) := ⟨⟨by decide +kernel, by decide +kernel⟩, List.mem_of_getElem? (i := 1013) (by decide +kernel), List.mem_of_getElem? (i := 1457) (by decide +kernel), List.mem_of_getElem? (i := 1458) (by decide +kernel)⟩
theorem lw_p149 : lw_okq (⟨"ShadowCourtModel", "servesOf", "(IZ)V"⟩, 61) := ⟨⟨by decide +kernel, by decide +kernel⟩, List.mem_of_getElem? (i := 1013) (by decide +kernel), List.mem_of_getElem? (i := 1461) (by decide +kernel), List.mem_of_getElem? (i := 1462) (by decide +kernel)⟩
theorem lw_p150 : lw_okq (⟨"ShadowCourtModel", "findsFor", "(I)I"⟩, 61) := ⟨⟨by decide +kernel, by decide +kernel⟩, List.mem_of_getElem? (i := 1013) (by decide +kernel), List.mem_of_getElem? (i := 1465) (by decide +kernel), List.mem_of_getElem? (i := 1466) (by decide +kernel)⟩
theorem lw_p151 : lw_okq (⟨"ShadowCourtModel", "laysCosts", "(IIZ)V"⟩, 61) := ⟨⟨by decide +kernel, by decide +kernel⟩, List.mem_of_getElem? (i := 1013) (by decide +kernel), List.mem_of_getElem? (i := 1469) (by decide +kernel), List.mem_of_getElem? (i := 1470) (by decide +kernel)⟩
theorem lw_p152 : lw_okq (⟨"ShadowCourtModel", "freeMany", "()I"⟩, 61) := ⟨⟨by decide +kernel, by decide +kernel⟩, List.mem_of_getElem? (i := 1013) (by decide +kernel), List.mem_of_getElem? (i := 1486) (by decide +kernel), List.mem_of_getElem? (i := 1487) (by decide +kernel)⟩
theorem lw_p153 : lw_okq (⟨"ShadowCourtModel", "mostAtOnce", "()I"⟩, 61) := ⟨⟨by decide +kernel, by decide +kernel⟩, List.mem_of_getElem? (i := 1013) (by decide +kernel), List.mem_of_getElem? (i := 1502) (by decide +kernel), List.mem_of_getElem? (i := 1503) (by decide +kernel)⟩
theorem lw_p154 : lw_okq (⟨"ShadowCourtModel", "laysReach", "()V"⟩, 61) := ⟨⟨by decide +kernel, by decide +kernel⟩, List.mem_of_getElem? (i := 1013) (by decide +kernel), List.mem_of_getElem? (i := 1506) (by decide +kernel), List.mem_of_getElem? (i := 1507) (by decide +kernel)⟩
theorem lw_p155 : lw_okq (⟨"ShadowCourtModel", "laysSteps", "()V"⟩, 61) := ⟨⟨by decide +kernel, by decide +kernel⟩, List.mem_of_getElem? (i := 1013) (by decide +kernel), List.mem_of_getElem? (i := 1517) (by decide +kernel), List.mem_of_getElem? (i := 1518) (by decide +kernel)⟩
theorem lw_p156 : lw_okq (⟨"ShadowCourtModel", "goesFew", "(I)V"⟩, 61) := ⟨⟨by decide +kernel, by decide +kernel⟩, List.mem_of_getElem? (i := 1013) (by decide +kernel), List.mem_of_getElem? (i := 1521) (by decide +kernel), List.mem_of_getElem? (i := 1522) (by decide +kernel)⟩
theorem lw_p157 : lw_okq (⟨"ShadowCourtModel", "servedIn", "(III)I"⟩, 61) := ⟨⟨by decide +kernel, by decide +kernel⟩, List.mem_of_getElem? (i := 1013) (by decide +kernel), List.mem_of_getElem? (i := 1529) (by decide +kernel), List.mem_of_getElem? (i := 1530) (by decide +kernel)⟩
theorem lw_p158 : lw_okq (⟨"ShadowCourtModel", "isFree", "(I)Z"⟩, 61) := ⟨⟨by decide +kernel, by decide +kernel⟩, List.mem_of_getElem? (i := 1013) (by decide +kernel), List.mem_of_getElem? (i := 1540) (by decide +kernel), List.mem_of_getElem? (i := 1541) (by decide +kernel)⟩
theorem lw_p159 : lw_okq (⟨"ShadowCourtModel", "servedFirst", "(II)I"⟩, 61) := ⟨⟨by decide +kernel, by decide +kernel⟩, List.mem_of_getElem? (i := 1013) (by decide +kernel), List.mem_of_getElem? (i := 1548) (by decide +kernel), List.mem_of_getElem? (i := 1549) (by decide +kernel)⟩
def lw_privs_10 : List (MethodName × Nat) := [(⟨"ShadowCourtModel", "fallsByLamps", "()V"⟩, 61), (⟨"ShadowCourtModel", "fallsBehind", "(II)V"⟩, 61), (⟨"ShadowCourtModel", "laysOrder", "()I"⟩, 61), (⟨"ShadowCourtModel", "owes", "(I)Z"⟩, 61), (⟨"ShadowCourtModel", "byFelon", "(III)I"⟩, 61), (⟨"ShadowCourtModel", "servesOf", "(IZ)V"⟩, 61), (⟨"ShadowCourtModel", "findsFor", "(I)I"⟩, 61), (⟨"ShadowCourtModel", "laysCosts", "(IIZ)V"⟩, 61), (⟨"ShadowCourtModel", "freeMany", "()I"⟩, 61), (⟨"ShadowCourtModel", "mostAtOnce", "()I"⟩, 61), (⟨"ShadowCourtModel", "laysReach", "()V"⟩, 61), (⟨"ShadowCourtModel", "laysSteps", "()V"⟩, 61), (⟨"ShadowCourtModel", "goesFew", "(I)V"⟩, 61), (⟨"ShadowCourtModel", "servedIn", "(III)I"⟩, 61), (⟨"ShadowCourtModel", "isFree", "(I)Z"⟩, 61), (⟨"ShadowCourtModel", "servedFirst", "(II)I"⟩, 61)]
theorem lw_r10 : ∀ q ∈ lw_privs_10, lw_okq q := List.forall_mem_cons.mpr ⟨lw_p144, List.forall_mem_cons.mpr ⟨lw_p145, List.forall_mem_cons.mpr ⟨lw_p146, List.forall_mem_cons.mpr ⟨lw_p147, List.forall_mem_cons.mpr ⟨lw_p148, List.forall_mem_cons.mpr ⟨lw_p149, List.forall_mem_cons.mpr ⟨lw_p150, List.forall_mem_cons.mpr ⟨lw_p151, List.forall_mem_cons.mpr ⟨lw_p152, List.forall_mem_cons.mpr ⟨lw_p153, List.forall_mem_cons.mpr ⟨lw_p154, List.forall_mem_cons.mpr ⟨lw_p155, List.forall_mem_cons.mpr ⟨lw_p156, List.forall_mem_cons.mpr ⟨lw_p157, List.forall_mem_cons.mpr ⟨lw_p158, List.forall_mem_cons.mpr ⟨lw_p159, fun _ h => absurd h List.not_mem_nil⟩⟩⟩⟩⟩⟩⟩⟩⟩⟩⟩⟩⟩⟩⟩⟩
theorem lw_p160 : lw_okq (⟨"ShadowCourtModel", "laysDark", "(I)V"⟩, 61) := ⟨⟨by decide +kernel, by decide +kernel⟩, List.mem_of_getElem? (i := 1013) (by decide +kernel), List.mem_of_getElem? (i := 1556) (by decide +kernel), List.mem_of_getElem? (i := 1557) (by decide +kernel)⟩
theorem lw_p161 : lw_okq (⟨"ShadowCourtModel", "areSpots", "(I)Z"⟩, 61) := ⟨⟨by decide +kernel, by decide +kernel⟩, List.mem_of_getElem? (i := 1013) (by decide +kernel), List.mem_of_getElem? (i := 1564) (by decide +kernel), List.mem_of_getElem? (i := 1565) (by decide +kernel)⟩
theorem lw_p162 : lw_okq (⟨"ShadowCourtModel", "failsAt", "(I)I"⟩, 61) := ⟨⟨by decide +kernel, by decide +kernel⟩, List.mem_of_getElem? (i := 1013) (by decide +kernel), List.mem_of_getElem? (i := 1568) (by decide +kernel), List.mem_of_getElem? (i := 1569) (by decide +kernel)⟩
theorem lw_p163 : lw_okq (⟨"ShadowCourtModel", "binds", "(III)V"⟩, 61) := ⟨⟨by decide +kernel, by decide +kernel⟩, List.mem_of_getElem? (i := 1013) (by decide +kernel), List.mem_of_getElem? (i := 1580) (by decide +kernel), List.mem_of_getElem? (i := 1581) (by decide +kernel)⟩
theorem lw_p164 : lw_okq (⟨"ShadowCourtModel", "tapeNumber", "(I)I"⟩, 61) := ⟨⟨by decide +kernel, by decide +kernel⟩, List.mem_of_getElem? (i := 1013) (by decide +kernel), List.mem_of_getElem? (i := 1608) (by decide +kernel), List.mem_of_getElem? (i := 1609) (by decide +kernel)⟩
theorem lw_p165 : lw_okq (⟨"ShadowCourtModel", "lampSet", "()I"⟩, 61) := ⟨⟨by decide +kernel, by decide +kernel⟩, List.mem_of_getElem? (i := 1013) (by decide +kernel), List.mem_of_getElem? (i := 1616) (by decide +kernel), List.mem_of_getElem? (i := 1617) (by decide +kernel)⟩
theorem lw_p166 : lw_okq (⟨"ShadowCourtModel", "owedAll", "()I"⟩, 61) := ⟨⟨by decide +kernel, by decide +kernel⟩, List.mem_of_getElem? (i := 1013) (by decide +kernel), List.mem_of_getElem? (i := 1620) (by decide +kernel), List.mem_of_getElem? (i := 1621) (by decide +kernel)⟩
def lw_privs_11 : List (MethodName × Nat) := [(⟨"ShadowCourtModel", "laysDark", "(I)V"⟩, 61), (⟨"ShadowCourtModel", "areSpots", "(I)Z"⟩, 61), (⟨"ShadowCourtModel", "failsAt", "(I)I"⟩, 61), (⟨"ShadowCourtModel", "binds", "(III)V"⟩, 61), (⟨"ShadowCourtModel", "tapeNumber", "(I)I"⟩, 61), (⟨"ShadowCourtModel", "lampSet", "()I"⟩, 61), (⟨"ShadowCourtModel", "owedAll", "()I"⟩, 61)]
theorem lw_r11 : ∀ q ∈ lw_privs_11, lw_okq q := List.forall_mem_cons.mpr ⟨lw_p160, List.forall_mem_cons.mpr ⟨lw_p161, List.forall_mem_cons.mpr ⟨lw_p162, List.forall_mem_cons.mpr ⟨lw_p163, List.forall_mem_cons.mpr ⟨lw_p164, List.forall_mem_cons.mpr ⟨lw_p165, List.forall_mem_cons.mpr ⟨lw_p166, fun _ h => absurd h List.not_mem_nil⟩⟩⟩⟩⟩⟩⟩
def lw_privs : List (MethodName × Nat) := lw_privs_1 ++ (lw_privs_2 ++ (lw_privs_3 ++ (lw_privs_4 ++ (lw_privs_5 ++ (lw_privs_6 ++ (lw_privs_7 ++ (lw_privs_8 ++ (lw_privs_9 ++ (lw_privs_10 ++ (lw_privs_11))))))))))
def lw_tbl : List Cond := k2_sels lw_privs ++ tables_1
theorem lw_privs_ok : ∀ q ∈ lw_privs, lw_okq q := by
  show ∀ q ∈ lw_privs_1 ++ (lw_privs_2 ++ (lw_privs_3 ++ (lw_privs_4 ++ (lw_privs_5 ++ (lw_privs_6 ++ (lw_privs_7 ++ (lw_privs_8 ++ (lw_privs_9 ++ (lw_privs_10 ++ (lw_privs_11)))))))))), lw_okq q
  exact List.forall_mem_append.mpr ⟨lw_r1, List.forall_mem_append.mpr ⟨lw_r2, List.forall_mem_append.mpr ⟨lw_r3, List.forall_mem_append.mpr ⟨lw_r4, List.forall_mem_append.mpr ⟨lw_r5, List.forall_mem_append.mpr ⟨lw_r6, List.forall_mem_append.mpr ⟨lw_r7, List.forall_mem_append.mpr ⟨lw_r8, List.forall_mem_append.mpr ⟨lw_r9, List.forall_mem_append.mpr ⟨lw_r10, lw_r11⟩⟩⟩⟩⟩⟩⟩⟩⟩⟩
-- ===== end of PART A
/-! ===== BEGIN printed: names, fields, word lists, decode rows ===== -/
def RX0 : String := "ShadowCourt$Clock"
def TX0 : u_T := fun k => match k with
  | 0 => ("ShadowCourt$Clock", "market", "LShadowCourt$Market;", true)
  | 1 => ("ShadowCourt$Clock", "law", "LShadowCourt$Law;", true)
  | 2 => ("ShadowCourt$Clock", "lampSpot", "[I", true)
  | 3 => ("ShadowCourt$Clock", "shadows", "LShadowCourt$Shadows;", true)
  | 4 => ("ShadowCourt$Clock", "line", "[I", true)
  | _ => ("ShadowCourt$Clock", "ranks", "[I", true)
def tyX0 : Nat → FieldType := fun k => match k with
  | 0 => .object "ShadowCourt$Market"
  | 1 => .object "ShadowCourt$Law"
  | 2 => .array .int
  | 3 => .object "ShadowCourt$Shadows"
  | 4 => .array .int
  | _ => .array .int
abbrev wsX00 : List Cond := u_ws RX0 TX0 6
theorem nmX0 : ∀ a, a < 6 → ∀ b, b < 6 → a ≠ b → (TX0 a).2.1 ≠ (TX0 b).2.1 := by decide +kernel
theorem tyX0_ok : ∀ k, k < 6 → parseFieldDescriptor (TX0 k).2.2.1 = some (tyX0 k) := by decide +kernel
abbrev cX0_init : ByteArray := prog_2_method_1_code
def yX0_init : MethodName := ⟨RX0, "<init>", "(LShadowCourt$Market;LShadowCourt$Law;)V"⟩
abbrev cX0_goOn : ByteArray := prog_2_method_2_code
def yX0_goOn : MethodName := ⟨RX0, "goOn", "(LShadowCourt$Day;II)I"⟩
abbrev cX0_walkOn : ByteArray := prog_2_method_3_code
def yX0_walkOn : MethodName := ⟨RX0, "walkOn", "(LShadowCourt$Day;)Z"⟩
abbrev cX0_judgesStep : ByteArray := prog_2_method_4_code
def yX0_judgesStep : MethodName := ⟨RX0, "judgesStep", "(LShadowCourt$Day;)V"⟩
abbrev cX0_castCloudless : ByteArray := prog_2_method_5_code
def yX0_castCloudless : MethodName := ⟨RX0, "castCloudless", "(LShadowCourt$Day;)V"⟩
abbrev cX0_cast : ByteArray := prog_2_method_6_code
def yX0_cast : MethodName := ⟨RX0, "cast", "(LShadowCourt$Day;ZZ)V"⟩
abbrev cX0_castOfLamp : ByteArray := prog_2_method_7_code
def yX0_castOfLamp : MethodName := ⟨RX0, "castOfLamp", "(LShadowCourt$Day;I)V"⟩
abbrev cX0_spotsInLampShadows : ByteArray := prog_2_method_8_code
def yX0_spotsInLampShadows : MethodName := ⟨RX0, "spotsInLampShadows", "(LShadowCourt$Day;I)I"⟩
abbrev cX0_shadowsAt : ByteArray := prog_2_method_9_code
def yX0_shadowsAt : MethodName := ⟨RX0, "shadowsAt", "(LShadowCourt$Day;I)I"⟩
abbrev cX0_tellFelon : ByteArray := prog_2_method_10_code
def yX0_tellFelon : MethodName := ⟨RX0, "tellFelon", "(LShadowCourt$Day;I)V"⟩
abbrev cX0_reachOf : ByteArray := prog_2_method_11_code
def yX0_reachOf : MethodName := ⟨RX0, "reachOf", "(LShadowCourt$Day;I)I"⟩
abbrev cX0_lineUp : ByteArray := prog_2_method_12_code
def yX0_lineUp : MethodName := ⟨RX0, "lineUp", "(LShadowCourt$Day;I)I"⟩
abbrev cX0_felonsGo : ByteArray := prog_2_method_13_code
def yX0_felonsGo : MethodName := ⟨RX0, "felonsGo", "(LShadowCourt$Day;IZ)V"⟩
abbrev cX0_findShadow : ByteArray := prog_2_method_14_code
def yX0_findShadow : MethodName := ⟨RX0, "findShadow", "(LShadowCourt$Day;II)I"⟩
def RX1 : String := "ShadowCourt$Crowd"
def TX1 : u_T := fun k => match k with
  | 0 => ("ShadowCourt$Crowd", "clock", "LShadowCourt$Clock;", true)
  | 1 => ("ShadowCourt$Crowd", "reach", "[I", true)
  | 2 => ("ShadowCourt$Crowd", "placeOf", "[I", true)
  | 3 => ("ShadowCourt$Crowd", "holderOf", "[I", true)
  | 4 => ("ShadowCourt$Crowd", "reachedBy", "[I", true)
  | _ => ("ShadowCourt$Crowd", "queue", "[I", true)
def tyX1 : Nat → FieldType := fun k => match k with
  | 0 => .object "ShadowCourt$Clock"
  | 1 => .array .int
  | 2 => .array .int
  | 3 => .array .int
  | 4 => .array .int
  | _ => .array .int
abbrev wsX10 : List Cond := u_ws RX1 TX1 6
theorem nmX1 : ∀ a, a < 6 → ∀ b, b < 6 → a ≠ b → (TX1 a).2.1 ≠ (TX1 b).2.1 := by decide +kernel
theorem tyX1_ok : ∀ k, k < 6 → parseFieldDescriptor (TX1 k).2.2.1 = some (tyX1 k) := by decide +kernel
abbrev cX1_init : ByteArray := prog_3_method_1_code
def yX1_init : MethodName := ⟨RX1, "<init>", "(LShadowCourt$Clock;)V"⟩
abbrev cX1_most : ByteArray := prog_3_method_2_code
def yX1_most : MethodName := ⟨RX1, "most", "(LShadowCourt$Day;)I"⟩
abbrev cX1_findsPlace : ByteArray := prog_3_method_3_code
def yX1_findsPlace : MethodName := ⟨RX1, "findsPlace", "(LShadowCourt$Day;I)Z"⟩
abbrev cX1_canGo : ByteArray := prog_3_method_4_code
def yX1_canGo : MethodName := ⟨RX1, "canGo", "(LShadowCourt$Day;II)Z"⟩
abbrev cX1_handOn : ByteArray := prog_3_method_5_code
def yX1_handOn : MethodName := ⟨RX1, "handOn", "(I)V"⟩
def RX2 : String := "ShadowCourt$Day"
def TX2 : u_T := fun k => match k with
  | 0 => ("ShadowCourt$Day", "judgeSpot", "[I", true)
  | 1 => ("ShadowCourt$Day", "walks", "[[I", true)
  | 2 => ("ShadowCourt$Day", "stepsDone", "[I", true)
  | 3 => ("ShadowCourt$Day", "felonSpot", "[I", true)
  | 4 => ("ShadowCourt$Day", "owed", "[I", true)
  | 5 => ("ShadowCourt$Day", "away", "[I", true)
  | 6 => ("ShadowCourt$Day", "drowned", "[Z", true)
  | 7 => ("ShadowCourt$Day", "minute", "I", false)
  | 8 => ("ShadowCourt$Day", "drawState", "I", false)
  | 9 => ("ShadowCourt$Day", "timesAway", "I", false)
  | 10 => ("ShadowCourt$Day", "cloudyMinutes", "I", false)
  | _ => ("ShadowCourt$Day", "felonSteps", "I", false)
def tyX2 : Nat → FieldType := fun k => match k with
  | 0 => .array .int
  | 1 => .array (.array .int)
  | 2 => .array .int
  | 3 => .array .int
  | 4 => .array .int
  | 5 => .array .int
  | 6 => .array .boolean
  | 7 => .int
  | 8 => .int
  | 9 => .int
  | 10 => .int
  | _ => .int
abbrev wsX20 : List Cond := u_ws RX2 TX2 12
theorem nmX2 : ∀ a, a < 12 → ∀ b, b < 12 → a ≠ b → (TX2 a).2.1 ≠ (TX2 b).2.1 := by decide +kernel
theorem tyX2_ok : ∀ k, k < 12 → parseFieldDescriptor (TX2 k).2.2.1 = some (tyX2 k) := by decide +kernel
abbrev cX2_init : ByteArray := prog_4_method_1_code
def yX2_init : MethodName := ⟨RX2, "<init>", "()V"⟩
abbrev cX2_copyFrom : ByteArray := prog_4_method_2_code
def yX2_copyFrom : MethodName := ⟨RX2, "copyFrom", "(LShadowCourt$Day;)V"⟩
abbrev cX2_clearCounts : ByteArray := prog_4_method_3_code
def yX2_clearCounts : MethodName := ⟨RX2, "clearCounts", "()V"⟩
abbrev cX2_setWalk : ByteArray := prog_4_method_4_code
def yX2_setWalk : MethodName := ⟨RX2, "setWalk", "(I[I)V"⟩
abbrev cX2_setFelon : ByteArray := prog_4_method_5_code
def yX2_setFelon : MethodName := ⟨RX2, "setFelon", "(III)V"⟩
abbrev cX2_hasJudge : ByteArray := prog_4_method_6_code
def yX2_hasJudge : MethodName := ⟨RX2, "hasJudge", "(I)Z"⟩
abbrev cX2_hasFelon : ByteArray := prog_4_method_7_code
def yX2_hasFelon : MethodName := ⟨RX2, "hasFelon", "(I)Z"⟩
abbrev cX2_mustServe : ByteArray := prog_4_method_8_code
def yX2_mustServe : MethodName := ⟨RX2, "mustServe", "(I)Z"⟩
abbrev cX2_stepsLeft : ByteArray := prog_4_method_9_code
def yX2_stepsLeft : MethodName := ⟨RX2, "stepsLeft", "(I)I"⟩
abbrev cX2_takeStep : ByteArray := prog_4_method_10_code
def yX2_takeStep : MethodName := ⟨RX2, "takeStep", "(I)I"⟩
abbrev cX2_draw : ByteArray := prog_4_method_11_code
def yX2_draw : MethodName := ⟨RX2, "draw", "()I"⟩
abbrev cX2_owedByAll : ByteArray := prog_4_method_12_code
def yX2_owedByAll : MethodName := ⟨RX2, "owedByAll", "()I"⟩
abbrev cX2_howManyDrowned : ByteArray := prog_4_method_13_code
def yX2_howManyDrowned : MethodName := ⟨RX2, "howManyDrowned", "()I"⟩
abbrev cX2_howManyOweNothing : ByteArray := prog_4_method_14_code
def yX2_howManyOweNothing : MethodName := ⟨RX2, "howManyOweNothing", "()I"⟩
def RX3 : String := "ShadowCourt$Foresight"
def TX3 : u_T := fun k => match k with
  | 0 => ("ShadowCourt$Foresight", "clock", "LShadowCourt$Clock;", true)
  | 1 => ("ShadowCourt$Foresight", "now", "LShadowCourt$Day;", true)
  | 2 => ("ShadowCourt$Foresight", "days", "[LShadowCourt$Day;", true)
  | 3 => ("ShadowCourt$Foresight", "singleSteps", "[[I", true)
  | 4 => ("ShadowCourt$Foresight", "way", "[I", true)
  | 5 => ("ShadowCourt$Foresight", "bestWay", "[I", true)
  | 6 => ("ShadowCourt$Foresight", "bestFelon", "I", false)
  | 7 => ("ShadowCourt$Foresight", "shadedMinutes", "[I", true)
  | 8 => ("ShadowCourt$Foresight", "least", "[[I", true)
  | 9 => ("ShadowCourt$Foresight", "spread", "[I", true)
  | _ => ("ShadowCourt$Foresight", "wider", "[I", true)
def tyX3 : Nat → FieldType := fun k => match k with
  | 0 => .object "ShadowCourt$Clock"
  | 1 => .object "ShadowCourt$Day"
  | 2 => .array (.object "ShadowCourt$Day")
  | 3 => .array (.array .int)
  | 4 => .array .int
  | 5 => .array .int
  | 6 => .int
  | 7 => .array .int
  | 8 => .array (.array .int)
  | 9 => .array .int
  | _ => .array .int
abbrev wsX30 : List Cond := u_ws RX3 TX3 11
theorem nmX3 : ∀ a, a < 11 → ∀ b, b < 11 → a ≠ b → (TX3 a).2.1 ≠ (TX3 b).2.1 := by decide +kernel
theorem tyX3_ok : ∀ k, k < 11 → parseFieldDescriptor (TX3 k).2.2.1 = some (tyX3 k) := by decide +kernel
abbrev cX3_init : ByteArray := prog_5_method_1_code
def yX3_init : MethodName := ⟨RX3, "<init>", "(LShadowCourt$Clock;LShadowCourt$Day;)V"⟩
abbrev cX3_copyOfNow : ByteArray := prog_5_method_2_code
def yX3_copyOfNow : MethodName := ⟨RX3, "copyOfNow", "()LShadowCourt$Day;"⟩
abbrev cX3_leastOwedWay : ByteArray := prog_5_method_3_code
def yX3_leastOwedWay : MethodName := ⟨RX3, "leastOwedWay", "(II)I"⟩
abbrev cX3_stepAlone : ByteArray := prog_5_method_4_code
def yX3_stepAlone : MethodName := ⟨RX3, "stepAlone", "(I)[I"⟩
abbrev cX3_turnToNextWay : ByteArray := prog_5_method_5_code
def yX3_turnToNextWay : MethodName := ⟨RX3, "turnToNextWay", "(I)I"⟩
abbrev cX3_bestAhead : ByteArray := prog_5_method_6_code
def yX3_bestAhead : MethodName := ⟨RX3, "bestAhead", "(I)I"⟩
abbrev cX3_countShadedMinutes : ByteArray := prog_5_method_7_code
def yX3_countShadedMinutes : MethodName := ⟨RX3, "countShadedMinutes", "(I)V"⟩
abbrev cX3_howManyNeverShaded : ByteArray := prog_5_method_8_code
def yX3_howManyNeverShaded : MethodName := ⟨RX3, "howManyNeverShaded", "()I"⟩
abbrev cX3_mostShaded : ByteArray := prog_5_method_9_code
def yX3_mostShaded : MethodName := ⟨RX3, "mostShaded", "()I"⟩
abbrev cX3_fewestSteps : ByteArray := prog_5_method_10_code
def yX3_fewestSteps : MethodName := ⟨RX3, "fewestSteps", "(III)I"⟩
abbrev cX3_spreadSteps : ByteArray := prog_5_method_11_code
def yX3_spreadSteps : MethodName := ⟨RX3, "spreadSteps", "([I)V"⟩
abbrev cX3_oneStepMore : ByteArray := prog_5_method_12_code
def yX3_oneStepMore : MethodName := ⟨RX3, "oneStepMore", "(I)I"⟩
abbrev cX3_settle : ByteArray := prog_5_method_13_code
def yX3_settle : MethodName := ⟨RX3, "settle", "(II)V"⟩
def RX4 : String := "ShadowCourt$Law"
def TX4 : u_T := fun k => match k with
  | 0 => ("ShadowCourt$Law", "orders", "[I", true)
  | 1 => ("ShadowCourt$Law", "words", "[I", true)
  | 2 => ("ShadowCourt$Law", "used", "I", false)
  | 3 => ("ShadowCourt$Law", "kindOfClause", "[I", true)
  | 4 => ("ShadowCourt$Law", "worthAt", "[I", true)
  | 5 => ("ShadowCourt$Law", "askedAt", "[I", true)
  | 6 => ("ShadowCourt$Law", "clauses", "I", false)
  | 7 => ("ShadowCourt$Law", "told", "[I", true)
  | _ => ("ShadowCourt$Law", "stack", "[I", true)
def tyX4 : Nat → FieldType := fun k => match k with
  | 0 => .array .int
  | 1 => .array .int
  | 2 => .int
  | 3 => .array .int
  | 4 => .array .int
  | 5 => .array .int
  | 6 => .int
  | 7 => .array .int
  | _ => .array .int
abbrev wsX40 : List Cond := u_ws RX4 TX4 9
theorem nmX4 : ∀ a, a < 9 → ∀ b, b < 9 → a ≠ b → (TX4 a).2.1 ≠ (TX4 b).2.1 := by decide +kernel
theorem tyX4_ok : ∀ k, k < 9 → parseFieldDescriptor (TX4 k).2.2.1 = some (tyX4 k) := by decide +kernel
abbrev cX4_init : ByteArray := prog_6_method_1_code
def yX4_init : MethodName := ⟨RX4, "<init>", "()V"⟩
abbrev cX4_empty : ByteArray := prog_6_method_2_code
def yX4_empty : MethodName := ⟨RX4, "empty", "()V"⟩
abbrev cX4_copyFrom : ByteArray := prog_6_method_3_code
def yX4_copyFrom : MethodName := ⟨RX4, "copyFrom", "(LShadowCourt$Law;)V"⟩
abbrev cX4_put : ByteArray := prog_6_method_4_code
def yX4_put : MethodName := ⟨RX4, "put", "(II)I"⟩
abbrev cX4_landSkip : ByteArray := prog_6_method_5_code
def yX4_landSkip : MethodName := ⟨RX4, "landSkip", "(I)V"⟩
abbrev cX4_placeOfLetter : ByteArray := prog_6_method_6_code
def yX4_placeOfLetter : MethodName := ⟨RX4, "placeOfLetter", "(I)I"⟩
abbrev cX4_tellMinute : ByteArray := prog_6_method_7_code
def yX4_tellMinute : MethodName := ⟨RX4, "tellMinute", "(I)V"⟩
abbrev cX4_tellJudge : ByteArray := prog_6_method_8_code
def yX4_tellJudge : MethodName := ⟨RX4, "tellJudge", "(II)V"⟩
abbrev cX4_tellFelon : ByteArray := prog_6_method_9_code
def yX4_tellFelon : MethodName := ⟨RX4, "tellFelon", "(IIIII)V"⟩
abbrev cX4_isNight : ByteArray := prog_6_method_10_code
def yX4_isNight : MethodName := ⟨RX4, "isNight", "(I)Z"⟩
abbrev cX4_worthOf : ByteArray := prog_6_method_11_code
def yX4_worthOf : MethodName := ⟨RX4, "worthOf", "(II)I"⟩
abbrev cX4_reckon : ByteArray := prog_6_method_12_code
def yX4_reckon : MethodName := ⟨RX4, "reckon", "(I)I"⟩
abbrev cX4_toldAt : ByteArray := prog_6_method_13_code
def yX4_toldAt : MethodName := ⟨RX4, "toldAt", "(I)I"⟩
abbrev cX4_joined : ByteArray := prog_6_method_14_code
def yX4_joined : MethodName := ⟨RX4, "joined", "(III)I"⟩
def RX5 : String := "ShadowCourt$LawReader"
def TX5 : u_T := fun k => match k with
  | 0 => ("ShadowCourt$LawReader", "tape", "LShadowCourt$Tape;", true)
  | _ => ("ShadowCourt$LawReader", "written", "LShadowCourt$Law;", true)
def tyX5 : Nat → FieldType := fun k => match k with
  | 0 => .object "ShadowCourt$Tape"
  | _ => .object "ShadowCourt$Law"
abbrev wsX50 : List Cond := u_ws RX5 TX5 2
theorem nmX5 : ∀ a, a < 2 → ∀ b, b < 2 → a ≠ b → (TX5 a).2.1 ≠ (TX5 b).2.1 := by decide +kernel
theorem tyX5_ok : ∀ k, k < 2 → parseFieldDescriptor (TX5 k).2.2.1 = some (tyX5 k) := by decide +kernel
abbrev cX5_init : ByteArray := prog_7_method_1_code
def yX5_init : MethodName := ⟨RX5, "<init>", "(LShadowCourt$Tape;)V"⟩
abbrev cX5_readWhole : ByteArray := prog_7_method_2_code
def yX5_readWhole : MethodName := ⟨RX5, "readWhole", "()Z"⟩
abbrev cX5_isKind : ByteArray := prog_7_method_3_code
def yX5_isKind : MethodName := ⟨RX5, "isKind", "(I)Z"⟩
abbrev cX5_readClause : ByteArray := prog_7_method_4_code
def yX5_readClause : MethodName := ⟨RX5, "readClause", "(II)Z"⟩
abbrev cX5_readParts : ByteArray := prog_7_method_5_code
def yX5_readParts : MethodName := ⟨RX5, "readParts", "(I)Z"⟩
abbrev cX5_readPieces : ByteArray := prog_7_method_6_code
def yX5_readPieces : MethodName := ⟨RX5, "readPieces", "(I)Z"⟩
abbrev cX5_readPiece : ByteArray := prog_7_method_7_code
def yX5_readPiece : MethodName := ⟨RX5, "readPiece", "(I)Z"⟩
abbrev cX5_readSum : ByteArray := prog_7_method_8_code
def yX5_readSum : MethodName := ⟨RX5, "readSum", "(I)Z"⟩
abbrev cX5_readTerm : ByteArray := prog_7_method_9_code
def yX5_readTerm : MethodName := ⟨RX5, "readTerm", "(I)Z"⟩
abbrev cX5_readFactor : ByteArray := prog_7_method_10_code
def yX5_readFactor : MethodName := ⟨RX5, "readFactor", "(I)Z"⟩
abbrev cX5_readNumber : ByteArray := prog_7_method_11_code
def yX5_readNumber : MethodName := ⟨RX5, "readNumber", "()Z"⟩
def RX6 : String := "ShadowCourt$Market"
def TX6 : u_T := fun k => match k with
  | 0 => ("ShadowCourt$Market", "kinds", "[I", true)
  | 1 => ("ShadowCourt$Market", "drawn", "[I", true)
  | 2 => ("ShadowCourt$Market", "steps", "[[I", true)
  | 3 => ("ShadowCourt$Market", "isReckoned", "[Z", true)
  | _ => ("ShadowCourt$Market", "drySteps", "[I", true)
def tyX6 : Nat → FieldType := fun k => match k with
  | 0 => .array .int
  | 1 => .array .int
  | 2 => .array (.array .int)
  | 3 => .array .boolean
  | _ => .array .int
abbrev wsX60 : List Cond := u_ws RX6 TX6 5
theorem nmX6 : ∀ a, a < 5 → ∀ b, b < 5 → a ≠ b → (TX6 a).2.1 ≠ (TX6 b).2.1 := by decide +kernel
theorem tyX6_ok : ∀ k, k < 5 → parseFieldDescriptor (TX6 k).2.2.1 = some (tyX6 k) := by decide +kernel
abbrev cX6_init : ByteArray := prog_8_method_1_code
def yX6_init : MethodName := ⟨RX6, "<init>", "()V"⟩
abbrev cX6_spotAt : ByteArray := prog_8_method_2_code
def yX6_spotAt : MethodName := ⟨RX6, "spotAt", "(II)I"⟩
abbrev cX6_isSpot : ByteArray := prog_8_method_3_code
def yX6_isSpot : MethodName := ⟨RX6, "isSpot", "(I)Z"⟩
abbrev cX6_beside : ByteArray := prog_8_method_4_code
def yX6_beside : MethodName := ⟨RX6, "beside", "(II)I"⟩
abbrev cX6_kindAt : ByteArray := prog_8_method_5_code
def yX6_kindAt : MethodName := ⟨RX6, "kindAt", "(I)I"⟩
abbrev cX6_isOpen : ByteArray := prog_8_method_6_code
def yX6_isOpen : MethodName := ⟨RX6, "isOpen", "(I)Z"⟩
abbrev cX6_openSpot : ByteArray := prog_8_method_7_code
def yX6_openSpot : MethodName := ⟨RX6, "openSpot", "(II)I"⟩
abbrev cX6_howMany : ByteArray := prog_8_method_8_code
def yX6_howMany : MethodName := ⟨RX6, "howMany", "(I)I"⟩
abbrev cX6_readFrom : ByteArray := prog_8_method_9_code
def yX6_readFrom : MethodName := ⟨RX6, "readFrom", "(LShadowCourt$Tape;)Z"⟩
abbrev cX6_readRow : ByteArray := prog_8_method_10_code
def yX6_readRow : MethodName := ⟨RX6, "readRow", "(LShadowCourt$Tape;I)Z"⟩
abbrev cX6_kindOf : ByteArray := prog_8_method_11_code
def yX6_kindOf : MethodName := ⟨RX6, "kindOf", "(I)I"⟩
abbrev cX6_timesOf : ByteArray := prog_8_method_12_code
def yX6_timesOf : MethodName := ⟨RX6, "timesOf", "(I)I"⟩
abbrev cX6_isDryWalk : ByteArray := prog_8_method_13_code
def yX6_isDryWalk : MethodName := ⟨RX6, "isDryWalk", "(II)Z"⟩
abbrev cX6_stepsBetween : ByteArray := prog_8_method_14_code
def yX6_stepsBetween : MethodName := ⟨RX6, "stepsBetween", "(II)I"⟩
abbrev cX6_reckonRow : ByteArray := prog_8_method_15_code
def yX6_reckonRow : MethodName := ⟨RX6, "reckonRow", "([IIZ)V"⟩
def RX7 : String := "ShadowCourt$Shadows"
def TX7 : u_T := fun k => match k with
  | 0 => ("ShadowCourt$Shadows", "layers", "[I", true)
  | 1 => ("ShadowCourt$Shadows", "spots", "[I", true)
  | 2 => ("ShadowCourt$Shadows", "isTaken", "[Z", true)
  | _ => ("ShadowCourt$Shadows", "size", "I", false)
def tyX7 : Nat → FieldType := fun k => match k with
  | 0 => .array .int
  | 1 => .array .int
  | 2 => .array .boolean
  | _ => .int
abbrev wsX70 : List Cond := u_ws RX7 TX7 4
theorem nmX7 : ∀ a, a < 4 → ∀ b, b < 4 → a ≠ b → (TX7 a).2.1 ≠ (TX7 b).2.1 := by decide +kernel
theorem tyX7_ok : ∀ k, k < 4 → parseFieldDescriptor (TX7 k).2.2.1 = some (tyX7 k) := by decide +kernel
abbrev cX7_init : ByteArray := prog_9_method_1_code
def yX7_init : MethodName := ⟨RX7, "<init>", "()V"⟩
abbrev cX7_clear : ByteArray := prog_9_method_2_code
def yX7_clear : MethodName := ⟨RX7, "clear", "()V"⟩
abbrev cX7_layersAt : ByteArray := prog_9_method_3_code
def yX7_layersAt : MethodName := ⟨RX7, "layersAt", "(I)I"⟩
abbrev cX7_fall : ByteArray := prog_9_method_4_code
def yX7_fall : MethodName := ⟨RX7, "fall", "(LShadowCourt$Market;III)V"⟩
abbrev cX7_howManyInMore : ByteArray := prog_9_method_5_code
def yX7_howManyInMore : MethodName := ⟨RX7, "howManyInMore", "()I"⟩
def RX8 : String := "ShadowCourt$Tape"
def TX8 : u_T := fun k => match k with
  | 0 => ("ShadowCourt$Tape", "bytes", "[I", true)
  | 1 => ("ShadowCourt$Tape", "length", "I", false)
  | 2 => ("ShadowCourt$Tape", "end", "I", false)
  | 3 => ("ShadowCourt$Tape", "at", "I", false)
  | _ => ("ShadowCourt$Tape", "fault", "I", false)
def tyX8 : Nat → FieldType := fun k => match k with
  | 0 => .array .int
  | 1 => .int
  | 2 => .int
  | 3 => .int
  | _ => .int
abbrev wsX80 : List Cond := u_ws RX8 TX8 5
theorem nmX8 : ∀ a, a < 5 → ∀ b, b < 5 → a ≠ b → (TX8 a).2.1 ≠ (TX8 b).2.1 := by decide +kernel
theorem tyX8_ok : ∀ k, k < 5 → parseFieldDescriptor (TX8 k).2.2.1 = some (tyX8 k) := by decide +kernel
abbrev cX8_init : ByteArray := prog_10_method_1_code
def yX8_init : MethodName := ⟨RX8, "<init>", "()V"⟩
abbrev cX8_putNumber : ByteArray := prog_10_method_2_code
def yX8_putNumber : MethodName := ⟨RX8, "putNumber", "(I)V"⟩
abbrev cX8_byteAt : ByteArray := prog_10_method_3_code
def yX8_byteAt : MethodName := ⟨RX8, "byteAt", "(I)I"⟩
abbrev cX8_numberAt : ByteArray := prog_10_method_4_code
def yX8_numberAt : MethodName := ⟨RX8, "numberAt", "(I)I"⟩
abbrev cX8_drop : ByteArray := prog_10_method_5_code
def yX8_drop : MethodName := ⟨RX8, "drop", "()V"⟩
abbrev cX8_open : ByteArray := prog_10_method_6_code
def yX8_open : MethodName := ⟨RX8, "open", "(I)V"⟩
abbrev cX8_sign : ByteArray := prog_10_method_7_code
def yX8_sign : MethodName := ⟨RX8, "sign", "()I"⟩
abbrev cX8_isDigit : ByteArray := prog_10_method_8_code
def yX8_isDigit : MethodName := ⟨RX8, "isDigit", "()Z"⟩
abbrev cX8_passes : ByteArray := prog_10_method_9_code
def yX8_passes : MethodName := ⟨RX8, "passes", "(I)Z"⟩
abbrev cX8_fails : ByteArray := prog_10_method_10_code
def yX8_fails : MethodName := ⟨RX8, "fails", "(II)Z"⟩
def RX9 : String := "ShadowCourt$WalkReader"
def TX9 : u_T := fun k => match k with
  | 0 => ("ShadowCourt$WalkReader", "tape", "LShadowCourt$Tape;", true)
  | 1 => ("ShadowCourt$WalkReader", "steps", "[I", true)
  | _ => ("ShadowCourt$WalkReader", "size", "I", false)
def tyX9 : Nat → FieldType := fun k => match k with
  | 0 => .object "ShadowCourt$Tape"
  | 1 => .array .int
  | _ => .int
abbrev wsX90 : List Cond := u_ws RX9 TX9 3
theorem nmX9 : ∀ a, a < 3 → ∀ b, b < 3 → a ≠ b → (TX9 a).2.1 ≠ (TX9 b).2.1 := by decide +kernel
theorem tyX9_ok : ∀ k, k < 3 → parseFieldDescriptor (TX9 k).2.2.1 = some (tyX9 k) := by decide +kernel
abbrev cX9_init : ByteArray := prog_11_method_1_code
def yX9_init : MethodName := ⟨RX9, "<init>", "(LShadowCourt$Tape;)V"⟩
abbrev cX9_readWhole : ByteArray := prog_11_method_2_code
def yX9_readWhole : MethodName := ⟨RX9, "readWhole", "()Z"⟩
abbrev cX9_copyOfSteps : ByteArray := prog_11_method_3_code
def yX9_copyOfSteps : MethodName := ⟨RX9, "copyOfSteps", "()[I"⟩
abbrev cX9_readSteps : ByteArray := prog_11_method_4_code
def yX9_readSteps : MethodName := ⟨RX9, "readSteps", "(I)Z"⟩
abbrev cX9_readStep : ByteArray := prog_11_method_5_code
def yX9_readStep : MethodName := ⟨RX9, "readStep", "(I)Z"⟩
abbrev cX9_repeat : ByteArray := prog_11_method_6_code
def yX9_repeat : MethodName := ⟨RX9, "repeat", "(II)Z"⟩
abbrev cX9_stepOf : ByteArray := prog_11_method_7_code
def yX9_stepOf : MethodName := ⟨RX9, "stepOf", "(I)I"⟩
def RX10 : String := "ShadowCourt"
def TX10 : u_T := fun k => match k with
  | 0 => ("ShadowCourt", "tape", "LShadowCourt$Tape;", true)
  | 1 => ("ShadowCourt", "market", "LShadowCourt$Market;", true)
  | 2 => ("ShadowCourt", "law", "LShadowCourt$Law;", true)
  | 3 => ("ShadowCourt", "lawReader", "LShadowCourt$LawReader;", true)
  | 4 => ("ShadowCourt", "walkReader", "LShadowCourt$WalkReader;", true)
  | 5 => ("ShadowCourt", "clock", "LShadowCourt$Clock;", true)
  | 6 => ("ShadowCourt", "foresight", "LShadowCourt$Foresight;", true)
  | 7 => ("ShadowCourt", "crowd", "LShadowCourt$Crowd;", true)
  | 8 => ("ShadowCourt", "now", "LShadowCourt$Day;", true)
  | 9 => ("ShadowCourt", "kept", "LShadowCourt$Day;", true)
  | 10 => ("ShadowCourt", "groupOf", "[I", true)
  | _ => ("ShadowCourt", "isKept", "Z", false)
def tyX10 : Nat → FieldType := fun k => match k with
  | 0 => .object "ShadowCourt$Tape"
  | 1 => .object "ShadowCourt$Market"
  | 2 => .object "ShadowCourt$Law"
  | 3 => .object "ShadowCourt$LawReader"
  | 4 => .object "ShadowCourt$WalkReader"
  | 5 => .object "ShadowCourt$Clock"
  | 6 => .object "ShadowCourt$Foresight"
  | 7 => .object "ShadowCourt$Crowd"
  | 8 => .object "ShadowCourt$Day"
  | 9 => .object "ShadowCourt$Day"
  | 10 => .array .int
  | _ => .boolean
abbrev wsX100 : List Cond := u_ws RX10 TX10 12
theorem nmX10 : ∀ a, a < 12 → ∀ b, b < 12 → a ≠ b → (TX10 a).2.1 ≠ (TX10 b).2.1 := by decide +kernel
theorem tyX10_ok : ∀ k, k < 12 → parseFieldDescriptor (TX10 k).2.2.1 = some (tyX10 k) := by decide +kernel
abbrev cX10_init : ByteArray := prog_1_method_1_code
def yX10_init : MethodName := ⟨RX10, "<init>", "()V"⟩
abbrev cX10_feed : ByteArray := prog_1_method_2_code
def yX10_feed : MethodName := ⟨RX10, "feed", "(IIIII)I"⟩
abbrev cX10_market : ByteArray := prog_1_method_3_code
def yX10_market : MethodName := ⟨RX10, "market", "(I)I"⟩
abbrev cX10_law : ByteArray := prog_1_method_4_code
def yX10_law : MethodName := ⟨RX10, "law", "(I)I"⟩
abbrev cX10_judge : ByteArray := prog_1_method_5_code
def yX10_judge : MethodName := ⟨RX10, "judge", "(III)Z"⟩
abbrev cX10_walk : ByteArray := prog_1_method_6_code
def yX10_walk : MethodName := ⟨RX10, "walk", "(II)I"⟩
abbrev cX10_felon : ByteArray := prog_1_method_7_code
def yX10_felon : MethodName := ⟨RX10, "felon", "(IIII)Z"⟩
abbrev cX10_lamp : ByteArray := prog_1_method_8_code
def yX10_lamp : MethodName := ⟨RX10, "lamp", "(III)Z"⟩
abbrev cX10_minutes : ByteArray := prog_1_method_9_code
def yX10_minutes : MethodName := ⟨RX10, "minutes", "(I)I"⟩
abbrev cX10_tried : ByteArray := prog_1_method_10_code
def yX10_tried : MethodName := ⟨RX10, "tried", "(II)I"⟩
abbrev cX10_felonIs : ByteArray := prog_1_method_11_code
def yX10_felonIs : MethodName := ⟨RX10, "felonIs", "(II)I"⟩
abbrev cX10_shade : ByteArray := prog_1_method_12_code
def yX10_shade : MethodName := ⟨RX10, "shade", "(II)I"⟩
abbrev cX10_atOnce : ByteArray := prog_1_method_13_code
def yX10_atOnce : MethodName := ⟨RX10, "atOnce", "(I)I"⟩
abbrev cX10_fewest : ByteArray := prog_1_method_14_code
def yX10_fewest : MethodName := ⟨RX10, "fewest", "(III)I"⟩
abbrev cX10_home : ByteArray := prog_1_method_15_code
def yX10_home : MethodName := ⟨RX10, "home", "(III)I"⟩
abbrev cX10_first : ByteArray := prog_1_method_16_code
def yX10_first : MethodName := ⟨RX10, "first", "(II)I"⟩
abbrev cX10_dark : ByteArray := prog_1_method_17_code
def yX10_dark : MethodName := ⟨RX10, "dark", "(II)I"⟩
abbrev cX10_hung : ByteArray := prog_1_method_18_code
def yX10_hung : MethodName := ⟨RX10, "hung", "(I)I"⟩
abbrev cX10_prints : ByteArray := prog_1_method_19_code
def yX10_prints : MethodName := ⟨RX10, "prints", "(II)I"⟩
abbrev cX10_cloudy : ByteArray := prog_1_method_20_code
def yX10_cloudy : MethodName := ⟨RX10, "cloudy", "(III)I"⟩
abbrev cX10_together : ByteArray := prog_1_method_21_code
def yX10_together : MethodName := ⟨RX10, "together", "(II)I"⟩
abbrev cX10_servedBy : ByteArray := prog_1_method_22_code
def yX10_servedBy : MethodName := ⟨RX10, "servedBy", "(II)I"⟩
abbrev cX10_seed : ByteArray := prog_1_method_23_code
def yX10_seed : MethodName := ⟨RX10, "seed", "(I)Z"⟩
abbrev cX10_keep : ByteArray := prog_1_method_24_code
def yX10_keep : MethodName := ⟨RX10, "keep", "()I"⟩
abbrev cX10_undo : ByteArray := prog_1_method_25_code
def yX10_undo : MethodName := ⟨RX10, "undo", "()Z"⟩
abbrev cX10_check : ByteArray := prog_1_method_26_code
def yX10_check : MethodName := ⟨RX10, "check", "(I)I"⟩
abbrev cX10_count : ByteArray := prog_1_method_27_code
def yX10_count : MethodName := ⟨RX10, "count", "(I)I"⟩
abbrev cX10_isIn : ByteArray := prog_1_method_28_code
def yX10_isIn : MethodName := ⟨RX10, "isIn", "(III)Z"⟩
abbrev cX10_bitsOfTold : ByteArray := prog_1_method_29_code
def yX10_bitsOfTold : MethodName := ⟨RX10, "bitsOfTold", "([I)I"⟩
abbrev cX10_sendAwayWhoCannotStand : ByteArray := prog_1_method_30_code
def yX10_sendAwayWhoCannotStand : MethodName := ⟨RX10, "sendAwayWhoCannotStand", "()V"⟩
abbrev cX10_canBeTried : ByteArray := prog_1_method_31_code
def yX10_canBeTried : MethodName := ⟨RX10, "canBeTried", "(I)Z"⟩
abbrev cX10_isFreeForLamp : ByteArray := prog_1_method_32_code
def yX10_isFreeForLamp : MethodName := ⟨RX10, "isFreeForLamp", "(I)Z"⟩
abbrev cX10_holds : ByteArray := prog_1_method_33_code
def yX10_holds : MethodName := ⟨RX10, "holds", "([II)Z"⟩
abbrev cX10_hasBytesBeyond : ByteArray := prog_1_method_34_code
def yX10_hasBytesBeyond : MethodName := ⟨RX10, "hasBytesBeyond", "(III)Z"⟩
abbrev cX10_brokenPrint : ByteArray := prog_1_method_35_code
def yX10_brokenPrint : MethodName := ⟨RX10, "brokenPrint", "(I)I"⟩
abbrev cX10_printStarters : ByteArray := prog_1_method_36_code
def yX10_printStarters : MethodName := ⟨RX10, "printStarters", "()I"⟩
abbrev cX10_printMakers : ByteArray := prog_1_method_37_code
def yX10_printMakers : MethodName := ⟨RX10, "printMakers", "(I)I"⟩
abbrev cX10_printsFailAt : ByteArray := prog_1_method_38_code
def yX10_printsFailAt : MethodName := ⟨RX10, "printsFailAt", "(I)I"⟩
abbrev cX10_cloudySets : ByteArray := prog_1_method_39_code
def yX10_cloudySets : MethodName := ⟨RX10, "cloudySets", "(III)I"⟩
abbrev cX10_servedOutside : ByteArray := prog_1_method_40_code
def yX10_servedOutside : MethodName := ⟨RX10, "servedOutside", "(II)I"⟩
abbrev cX10_areAllPlaces : ByteArray := prog_1_method_41_code
def yX10_areAllPlaces : MethodName := ⟨RX10, "areAllPlaces", "(II)Z"⟩
abbrev cX10_sentencesTogether : ByteArray := prog_1_method_42_code
def yX10_sentencesTogether : MethodName := ⟨RX10, "sentencesTogether", "(III)I"⟩
abbrev cX10_groupSentences : ByteArray := prog_1_method_43_code
def yX10_groupSentences : MethodName := ⟨RX10, "groupSentences", "(II)V"⟩
abbrev cX10_joinGroups : ByteArray := prog_1_method_44_code
def yX10_joinGroups : MethodName := ⟨RX10, "joinGroups", "(III)V"⟩
abbrev cX10_longestOfGroup : ByteArray := prog_1_method_45_code
def yX10_longestOfGroup : MethodName := ⟨RX10, "longestOfGroup", "(II)I"⟩
def RX11 : String := "ShadowCourtModel"
def TX11 : u_T := fun k => match k with
  | 0 => ("ShadowCourtModel", "now", "[I", true)
  | 1 => ("ShadowCourtModel", "aside", "[I", true)
  | 2 => ("ShadowCourtModel", "kept", "[I", true)
  | 3 => ("ShadowCourtModel", "kindOf", "[I", true)
  | 4 => ("ShadowCourtModel", "lampAt", "[I", true)
  | 5 => ("ShadowCourtModel", "walkMany", "[I", true)
  | 6 => ("ShadowCourtModel", "walkStep", "[B", true)
  | 7 => ("ShadowCourtModel", "tape", "[B", true)
  | 8 => ("ShadowCourtModel", "taped", "I", false)
  | 9 => ("ShadowCourtModel", "place0", "I", false)
  | 10 => ("ShadowCourtModel", "length0", "I", false)
  | 11 => ("ShadowCourtModel", "fault", "I", false)
  | 12 => ("ShadowCourtModel", "number0", "I", false)
  | 13 => ("ShadowCourtModel", "open", "I", false)
  | 14 => ("ShadowCourtModel", "codeMany", "I", false)
  | 15 => ("ShadowCourtModel", "waiting", "I", false)
  | 16 => ("ShadowCourtModel", "saidMany", "I", false)
  | 17 => ("ShadowCourtModel", "clauses", "I", false)
  | 18 => ("ShadowCourtModel", "said", "[I", true)
  | 19 => ("ShadowCourtModel", "waitsAt", "[I", true)
  | 20 => ("ShadowCourtModel", "saidLetter", "[I", true)
  | 21 => ("ShadowCourtModel", "saidFrom", "[I", true)
  | 22 => ("ShadowCourtModel", "saidHalf", "[I", true)
  | 23 => ("ShadowCourtModel", "saidTo", "[I", true)
  | 24 => ("ShadowCourtModel", "codes", "[I", true)
  | 25 => ("ShadowCourtModel", "clauseOf", "[I", true)
  | 26 => ("ShadowCourtModel", "codeFrom", "[I", true)
  | 27 => ("ShadowCourtModel", "codeHalf", "[I", true)
  | 28 => ("ShadowCourtModel", "codeTo", "[I", true)
  | 29 => ("ShadowCourtModel", "newKind", "[I", true)
  | 30 => ("ShadowCourtModel", "newStep", "[B", true)
  | 31 => ("ShadowCourtModel", "roundFrom", "[I", true)
  | 32 => ("ShadowCourtModel", "roundAt", "[I", true)
  | 33 => ("ShadowCourtModel", "roundTimes", "[I", true)
  | 34 => ("ShadowCourtModel", "newMany", "I", false)
  | 35 => ("ShadowCourtModel", "rounds", "I", false)
  | 36 => ("ShadowCourtModel", "stepFrom", "I", false)
  | 37 => ("ShadowCourtModel", "stepTimes", "I", false)
  | 38 => ("ShadowCourtModel", "stack", "[I", true)
  | 39 => ("ShadowCourtModel", "facts", "[I", true)
  | 40 => ("ShadowCourtModel", "shades", "[I", true)
  | 41 => ("ShadowCourtModel", "servedNow", "I", false)
  | 42 => ("ShadowCourtModel", "awayNow", "I", false)
  | 43 => ("ShadowCourtModel", "cloudyNow", "I", false)
  | 44 => ("ShadowCourtModel", "stepsNow", "I", false)
  | 45 => ("ShadowCourtModel", "costTo", "[I", true)
  | 46 => ("ShadowCourtModel", "orderOf", "[I", true)
  | 47 => ("ShadowCourtModel", "rankOf", "[I", true)
  | 48 => ("ShadowCourtModel", "goesFirst", "I", false)
  | 49 => ("ShadowCourtModel", "isTaken", "[Z", true)
  | 50 => ("ShadowCourtModel", "canStand", "[Z", true)
  | 51 => ("ShadowCourtModel", "reachOf", "[I", true)
  | 52 => ("ShadowCourtModel", "fewOf", "[I", true)
  | 53 => ("ShadowCourtModel", "fewThen", "[I", true)
  | 54 => ("ShadowCourtModel", "stepsFrom", "[I", true)
  | 55 => ("ShadowCourtModel", "darkOf", "[I", true)
  | 56 => ("ShadowCourtModel", "groupOf", "[I", true)
  | 57 => ("ShadowCourtModel", "longOf", "[I", true)
  | 58 => ("ShadowCourtModel", "isKept", "Z", false)
  | 59 => ("ShadowCourtModel", "keptMany", "[I", true)
  | _ => ("ShadowCourtModel", "keptStep", "[B", true)
def tyX11 : Nat → FieldType := fun k => match k with
  | 0 => .array .int
  | 1 => .array .int
  | 2 => .array .int
  | 3 => .array .int
  | 4 => .array .int
  | 5 => .array .int
  | 6 => .array .byte
  | 7 => .array .byte
  | 8 => .int
  | 9 => .int
  | 10 => .int
  | 11 => .int
  | 12 => .int
  | 13 => .int
  | 14 => .int
  | 15 => .int
  | 16 => .int
  | 17 => .int
  | 18 => .array .int
  | 19 => .array .int
  | 20 => .array .int
  | 21 => .array .int
  | 22 => .array .int
  | 23 => .array .int
  | 24 => .array .int
  | 25 => .array .int
  | 26 => .array .int
  | 27 => .array .int
  | 28 => .array .int
  | 29 => .array .int
  | 30 => .array .byte
  | 31 => .array .int
  | 32 => .array .int
  | 33 => .array .int
  | 34 => .int
  | 35 => .int
  | 36 => .int
  | 37 => .int
  | 38 => .array .int
  | 39 => .array .int
  | 40 => .array .int
  | 41 => .int
  | 42 => .int
  | 43 => .int
  | 44 => .int
  | 45 => .array .int
  | 46 => .array .int
  | 47 => .array .int
  | 48 => .int
  | 49 => .array .boolean
  | 50 => .array .boolean
  | 51 => .array .int
  | 52 => .array .int
  | 53 => .array .int
  | 54 => .array .int
  | 55 => .array .int
  | 56 => .array .int
  | 57 => .array .int
  | 58 => .boolean
  | 59 => .array .int
  | _ => .array .byte
abbrev wsX110 : List Cond := u_ws RX11 TX11 61
theorem nmX11 : ∀ a, a < 61 → ∀ b, b < 61 → a ≠ b → (TX11 a).2.1 ≠ (TX11 b).2.1 := by decide +kernel
theorem tyX11_ok : ∀ k, k < 61 → parseFieldDescriptor (TX11 k).2.2.1 = some (tyX11 k) := by decide +kernel
abbrev cX11_init : ByteArray := prog_13_method_1_code
def yX11_init : MethodName := ⟨RX11, "<init>", "()V"⟩
abbrev cX11_in : ByteArray := prog_13_method_2_code
def yX11_in : MethodName := ⟨RX11, "in", "(III)Z"⟩
abbrev cX11_min : ByteArray := prog_13_method_3_code
def yX11_min : MethodName := ⟨RX11, "min", "(II)I"⟩
abbrev cX11_max : ByteArray := prog_13_method_4_code
def yX11_max : MethodName := ⟨RX11, "max", "(II)I"⟩
abbrev cX11_has : ByteArray := prog_13_method_6_code
def yX11_has : MethodName := ⟨RX11, "has", "(II)Z"⟩
abbrev cX11_bits : ByteArray := prog_13_method_7_code
def yX11_bits : MethodName := ⟨RX11, "bits", "(I)I"⟩
abbrev cX11_isFive : ByteArray := prog_13_method_8_code
def yX11_isFive : MethodName := ⟨RX11, "isFive", "(II)Z"⟩
abbrev cX11_isJudge : ByteArray := prog_13_method_9_code
def yX11_isJudge : MethodName := ⟨RX11, "isJudge", "(I)Z"⟩
abbrev cX11_isFelon : ByteArray := prog_13_method_10_code
def yX11_isFelon : MethodName := ⟨RX11, "isFelon", "(I)Z"⟩
abbrev cX11_owes : ByteArray := prog_13_method_11_code
def yX11_owes : MethodName := ⟨RX11, "owes", "(I)Z"⟩
abbrev cX11_isOn : ByteArray := prog_13_method_12_code
def yX11_isOn : MethodName := ⟨RX11, "isOn", "(II)Z"⟩
abbrev cX11_isGround : ByteArray := prog_13_method_13_code
def yX11_isGround : MethodName := ⟨RX11, "isGround", "(I)Z"⟩
abbrev cX11_wayX : ByteArray := prog_13_method_14_code
def yX11_wayX : MethodName := ⟨RX11, "wayX", "(I)I"⟩
abbrev cX11_wayY : ByteArray := prog_13_method_15_code
def yX11_wayY : MethodName := ⟨RX11, "wayY", "(I)I"⟩
abbrev cX11_beside : ByteArray := prog_13_method_16_code
def yX11_beside : MethodName := ⟨RX11, "beside", "(II)I"⟩
abbrev cX11_types : ByteArray := prog_13_method_17_code
def yX11_types : MethodName := ⟨RX11, "types", "(I)V"⟩
abbrev cX11_feed : ByteArray := prog_13_method_18_code
def yX11_feed : MethodName := ⟨RX11, "feed", "(IIIII)I"⟩
abbrev cX11_here : ByteArray := prog_13_method_19_code
def yX11_here : MethodName := ⟨RX11, "here", "()I"⟩
abbrev cX11_isDigit : ByteArray := prog_13_method_20_code
def yX11_isDigit : MethodName := ⟨RX11, "isDigit", "()Z"⟩
abbrev cX11_wrongAt : ByteArray := prog_13_method_21_code
def yX11_wrongAt : MethodName := ⟨RX11, "wrongAt", "(II)Z"⟩
abbrev cX11_takes : ByteArray := prog_13_method_22_code
def yX11_takes : MethodName := ⟨RX11, "takes", "(I)Z"⟩
abbrev cX11_readsNumber : ByteArray := prog_13_method_23_code
def yX11_readsNumber : MethodName := ⟨RX11, "readsNumber", "()Z"⟩
abbrev cX11_notes : ByteArray := prog_13_method_24_code
def yX11_notes : MethodName := ⟨RX11, "notes", "(II)V"⟩
abbrev cX11_opens : ByteArray := prog_13_method_25_code
def yX11_opens : MethodName := ⟨RX11, "opens", "(I)Z"⟩
abbrev cX11_waitTop : ByteArray := prog_13_method_26_code
def yX11_waitTop : MethodName := ⟨RX11, "waitTop", "()I"⟩
abbrev cX11_factOf : ByteArray := prog_13_method_27_code
def yX11_factOf : MethodName := ⟨RX11, "factOf", "(I)I"⟩
abbrev cX11_sumSign : ByteArray := prog_13_method_28_code
def yX11_sumSign : MethodName := ⟨RX11, "sumSign", "(I)I"⟩
abbrev cX11_closesSums : ByteArray := prog_13_method_29_code
def yX11_closesSums : MethodName := ⟨RX11, "closesSums", "(Z)V"⟩
abbrev cX11_readsFactor : ByteArray := prog_13_method_30_code
def yX11_readsFactor : MethodName := ⟨RX11, "readsFactor", "()Z"⟩
abbrev cX11_hasOpenSum : ByteArray := prog_13_method_31_code
def yX11_hasOpenSum : MethodName := ⟨RX11, "hasOpenSum", "(I)Z"⟩
abbrev cX11_readsSum : ByteArray := prog_13_method_32_code
def yX11_readsSum : MethodName := ⟨RX11, "readsSum", "()Z"⟩
abbrev cX11_endsPiece : ByteArray := prog_13_method_33_code
def yX11_endsPiece : MethodName := ⟨RX11, "endsPiece", "()V"⟩
abbrev cX11_lands : ByteArray := prog_13_method_34_code
def yX11_lands : MethodName := ⟨RX11, "lands", "(Z)V"⟩
abbrev cX11_jumps : ByteArray := prog_13_method_35_code
def yX11_jumps : MethodName := ⟨RX11, "jumps", "(I)V"⟩
abbrev cX11_readsCompared : ByteArray := prog_13_method_36_code
def yX11_readsCompared : MethodName := ⟨RX11, "readsCompared", "()Z"⟩
abbrev cX11_readsCondition : ByteArray := prog_13_method_37_code
def yX11_readsCondition : MethodName := ⟨RX11, "readsCondition", "()Z"⟩
abbrev cX11_isSpotSign : ByteArray := prog_13_method_38_code
def yX11_isSpotSign : MethodName := ⟨RX11, "isSpotSign", "(I)Z"⟩
abbrev cX11_isTimes : ByteArray := prog_13_method_39_code
def yX11_isTimes : MethodName := ⟨RX11, "isTimes", "(I)Z"⟩
abbrev cX11_readsRow : ByteArray := prog_13_method_40_code
def yX11_readsRow : MethodName := ⟨RX11, "readsRow", "(I)Z"⟩
abbrev cX11_market : ByteArray := prog_13_method_41_code
def yX11_market : MethodName := ⟨RX11, "market", "(I)I"⟩
abbrev cX11_judge : ByteArray := prog_13_method_42_code
def yX11_judge : MethodName := ⟨RX11, "judge", "(III)Z"⟩
abbrev cX11_felon : ByteArray := prog_13_method_43_code
def yX11_felon : MethodName := ⟨RX11, "felon", "(IIII)Z"⟩
abbrev cX11_lamp : ByteArray := prog_13_method_44_code
def yX11_lamp : MethodName := ⟨RX11, "lamp", "(III)Z"⟩
abbrev cX11_wayOf : ByteArray := prog_13_method_45_code
def yX11_wayOf : MethodName := ⟨RX11, "wayOf", "(I)I"⟩
abbrev cX11_repeats : ByteArray := prog_13_method_46_code
def yX11_repeats : MethodName := ⟨RX11, "repeats", "(III)Z"⟩
abbrev cX11_readsTimes : ByteArray := prog_13_method_47_code
def yX11_readsTimes : MethodName := ⟨RX11, "readsTimes", "()V"⟩
abbrev cX11_readsStep : ByteArray := prog_13_method_48_code
def yX11_readsStep : MethodName := ⟨RX11, "readsStep", "()Z"⟩
abbrev cX11_walk : ByteArray := prog_13_method_49_code
def yX11_walk : MethodName := ⟨RX11, "walk", "(II)I"⟩
abbrev cX11_isClause : ByteArray := prog_13_method_50_code
def yX11_isClause : MethodName := ⟨RX11, "isClause", "(I)Z"⟩
abbrev cX11_readsClause : ByteArray := prog_13_method_51_code
def yX11_readsClause : MethodName := ⟨RX11, "readsClause", "()Z"⟩
abbrev cX11_law : ByteArray := prog_13_method_52_code
def yX11_law : MethodName := ⟨RX11, "law", "(I)I"⟩
abbrev cX11_reckon : ByteArray := prog_13_method_53_code
def yX11_reckon : MethodName := ⟨RX11, "reckon", "(III)I"⟩
abbrev cX11_comesTo : ByteArray := prog_13_method_54_code
def yX11_comesTo : MethodName := ⟨RX11, "comesTo", "(II)I"⟩
abbrev cX11_byLaw : ByteArray := prog_13_method_55_code
def yX11_byLaw : MethodName := ⟨RX11, "byLaw", "(II)I"⟩
abbrev cX11_feels : ByteArray := prog_13_method_56_code
def yX11_feels : MethodName := ⟨RX11, "feels", "(I)V"⟩
abbrev cX11_isNight : ByteArray := prog_13_method_57_code
def yX11_isNight : MethodName := ⟨RX11, "isNight", "(I)Z"⟩
abbrev cX11_byFelon : ByteArray := prog_13_method_58_code
def yX11_byFelon : MethodName := ⟨RX11, "byFelon", "(III)I"⟩
abbrev cX11_falls : ByteArray := prog_13_method_59_code
def yX11_falls : MethodName := ⟨RX11, "falls", "(III)V"⟩
abbrev cX11_fallsOf : ByteArray := prog_13_method_60_code
def yX11_fallsOf : MethodName := ⟨RX11, "fallsOf", "(II)V"⟩
abbrev cX11_fallsBehind : ByteArray := prog_13_method_61_code
def yX11_fallsBehind : MethodName := ⟨RX11, "fallsBehind", "(II)V"⟩
abbrev cX11_bares : ByteArray := prog_13_method_62_code
def yX11_bares : MethodName := ⟨RX11, "bares", "()V"⟩
abbrev cX11_fallsByLamps : ByteArray := prog_13_method_63_code
def yX11_fallsByLamps : MethodName := ⟨RX11, "fallsByLamps", "()V"⟩
abbrev cX11_laysShades : ByteArray := prog_13_method_64_code
def yX11_laysShades : MethodName := ⟨RX11, "laysShades", "(IZ)V"⟩
abbrev cX11_steps : ByteArray := prog_13_method_65_code
def yX11_steps : MethodName := ⟨RX11, "steps", "(II)V"⟩
abbrev cX11_walksOn : ByteArray := prog_13_method_66_code
def yX11_walksOn : MethodName := ⟨RX11, "walksOn", "(I)V"⟩
abbrev cX11_laysCosts : ByteArray := prog_13_method_67_code
def yX11_laysCosts : MethodName := ⟨RX11, "laysCosts", "(IIZ)V"⟩
abbrev cX11_laysOrder : ByteArray := prog_13_method_68_code
def yX11_laysOrder : MethodName := ⟨RX11, "laysOrder", "()I"⟩
abbrev cX11_findsFor : ByteArray := prog_13_method_69_code
def yX11_findsFor : MethodName := ⟨RX11, "findsFor", "(I)I"⟩
abbrev cX11_servesOf : ByteArray := prog_13_method_70_code
def yX11_servesOf : MethodName := ⟨RX11, "servesOf", "(IZ)V"⟩
abbrev cX11_draws : ByteArray := prog_13_method_71_code
def yX11_draws : MethodName := ⟨RX11, "draws", "()I"⟩
abbrev cX11_shadesGo : ByteArray := prog_13_method_72_code
def yX11_shadesGo : MethodName := ⟨RX11, "shadesGo", "()V"⟩
abbrev cX11_begins : ByteArray := prog_13_method_73_code
def yX11_begins : MethodName := ⟨RX11, "begins", "()V"⟩
abbrev cX11_minutesGo : ByteArray := prog_13_method_74_code
def yX11_minutesGo : MethodName := ⟨RX11, "minutesGo", "(I)V"⟩
abbrev cX11_minutes : ByteArray := prog_13_method_75_code
def yX11_minutes : MethodName := ⟨RX11, "minutes", "(I)I"⟩
abbrev cX11_copies : ByteArray := prog_13_method_76_code
def yX11_copies : MethodName := ⟨RX11, "copies", "([I[I)V"⟩
abbrev cX11_freeMany : ByteArray := prog_13_method_77_code
def yX11_freeMany : MethodName := ⟨RX11, "freeMany", "()I"⟩
abbrev cX11_tried : ByteArray := prog_13_method_78_code
def yX11_tried : MethodName := ⟨RX11, "tried", "(II)I"⟩
abbrev cX11_felonIs : ByteArray := prog_13_method_79_code
def yX11_felonIs : MethodName := ⟨RX11, "felonIs", "(II)I"⟩
abbrev cX11_shade : ByteArray := prog_13_method_80_code
def yX11_shade : MethodName := ⟨RX11, "shade", "(II)I"⟩
abbrev cX11_laysReach : ByteArray := prog_13_method_81_code
def yX11_laysReach : MethodName := ⟨RX11, "laysReach", "()V"⟩
abbrev cX11_mostAtOnce : ByteArray := prog_13_method_82_code
def yX11_mostAtOnce : MethodName := ⟨RX11, "mostAtOnce", "()I"⟩
abbrev cX11_atOnce : ByteArray := prog_13_method_83_code
def yX11_atOnce : MethodName := ⟨RX11, "atOnce", "(I)I"⟩
abbrev cX11_laysSteps : ByteArray := prog_13_method_84_code
def yX11_laysSteps : MethodName := ⟨RX11, "laysSteps", "()V"⟩
abbrev cX11_goesFew : ByteArray := prog_13_method_85_code
def yX11_goesFew : MethodName := ⟨RX11, "goesFew", "(I)V"⟩
abbrev cX11_fewest : ByteArray := prog_13_method_86_code
def yX11_fewest : MethodName := ⟨RX11, "fewest", "(III)I"⟩
abbrev cX11_stepIn : ByteArray := prog_13_method_87_code
def yX11_stepIn : MethodName := ⟨RX11, "stepIn", "(III)I"⟩
abbrev cX11_servedIn : ByteArray := prog_13_method_88_code
def yX11_servedIn : MethodName := ⟨RX11, "servedIn", "(III)I"⟩
abbrev cX11_home : ByteArray := prog_13_method_89_code
def yX11_home : MethodName := ⟨RX11, "home", "(III)I"⟩
abbrev cX11_isFree : ByteArray := prog_13_method_90_code
def yX11_isFree : MethodName := ⟨RX11, "isFree", "(I)Z"⟩
abbrev cX11_hung : ByteArray := prog_13_method_91_code
def yX11_hung : MethodName := ⟨RX11, "hung", "(I)I"⟩
abbrev cX11_servedFirst : ByteArray := prog_13_method_92_code
def yX11_servedFirst : MethodName := ⟨RX11, "servedFirst", "(II)I"⟩
abbrev cX11_first : ByteArray := prog_13_method_93_code
def yX11_first : MethodName := ⟨RX11, "first", "(II)I"⟩
abbrev cX11_laysDark : ByteArray := prog_13_method_94_code
def yX11_laysDark : MethodName := ⟨RX11, "laysDark", "(I)V"⟩
abbrev cX11_dark : ByteArray := prog_13_method_95_code
def yX11_dark : MethodName := ⟨RX11, "dark", "(II)I"⟩
abbrev cX11_areSpots : ByteArray := prog_13_method_96_code
def yX11_areSpots : MethodName := ⟨RX11, "areSpots", "(I)Z"⟩
abbrev cX11_failsAt : ByteArray := prog_13_method_97_code
def yX11_failsAt : MethodName := ⟨RX11, "failsAt", "(I)I"⟩
abbrev cX11_prints : ByteArray := prog_13_method_98_code
def yX11_prints : MethodName := ⟨RX11, "prints", "(II)I"⟩
abbrev cX11_cloudy : ByteArray := prog_13_method_99_code
def yX11_cloudy : MethodName := ⟨RX11, "cloudy", "(III)I"⟩
abbrev cX11_together : ByteArray := prog_13_method_100_code
def yX11_together : MethodName := ⟨RX11, "together", "(II)I"⟩
abbrev cX11_binds : ByteArray := prog_13_method_101_code
def yX11_binds : MethodName := ⟨RX11, "binds", "(III)V"⟩
abbrev cX11_servedBy : ByteArray := prog_13_method_102_code
def yX11_servedBy : MethodName := ⟨RX11, "servedBy", "(II)I"⟩
abbrev cX11_seed : ByteArray := prog_13_method_103_code
def yX11_seed : MethodName := ⟨RX11, "seed", "(I)Z"⟩
abbrev cX11_copiesWalks : ByteArray := prog_13_method_104_code
def yX11_copiesWalks : MethodName := ⟨RX11, "copiesWalks", "([I[B[I[B)V"⟩
abbrev cX11_keep : ByteArray := prog_13_method_105_code
def yX11_keep : MethodName := ⟨RX11, "keep", "()I"⟩
abbrev cX11_undo : ByteArray := prog_13_method_106_code
def yX11_undo : MethodName := ⟨RX11, "undo", "()Z"⟩
abbrev cX11_tapeNumber : ByteArray := prog_13_method_107_code
def yX11_tapeNumber : MethodName := ⟨RX11, "tapeNumber", "(I)I"⟩
abbrev cX11_check : ByteArray := prog_13_method_108_code
def yX11_check : MethodName := ⟨RX11, "check", "(I)I"⟩
abbrev cX11_owedAll : ByteArray := prog_13_method_109_code
def yX11_owedAll : MethodName := ⟨RX11, "owedAll", "()I"⟩
abbrev cX11_lampSet : ByteArray := prog_13_method_110_code
def yX11_lampSet : MethodName := ⟨RX11, "lampSet", "()I"⟩
abbrev cX11_count : ByteArray := prog_13_method_111_code
def yX11_count : MethodName := ⟨RX11, "count", "(I)I"⟩
def RJ9 : String := "java/lang/Math"
def TJ9 : u_T := fun k => match k with
  | _ => ("", "", "", false)
def tyJ9 : Nat → FieldType := fun k => match k with
  | _ => .int
abbrev wsJ90 : List Cond := u_ws RJ9 TJ9 0
theorem nmJ9 : ∀ a, a < 0 → ∀ b, b < 0 → a ≠ b → (TJ9 a).2.1 ≠ (TJ9 b).2.1 := by decide +kernel
theorem tyJ9_ok : ∀ k, k < 0 → parseFieldDescriptor (TJ9 k).2.2.1 = some (tyJ9 k) := by decide +kernel
abbrev cJ9_max_7cf53 : ByteArray := prog_14_method_65_code
def yJ9_max_7cf53 : MethodName := ⟨RJ9, "max", "(II)I"⟩
abbrev cJ9_min_7cf53 : ByteArray := prog_14_method_69_code
def yJ9_min_7cf53 : MethodName := ⟨RJ9, "min", "(II)I"⟩
def RJ10 : String := "java/lang/System"
def TJ10 : u_T := fun k => match k with
  | _ => ("", "", "", false)
def tyJ10 : Nat → FieldType := fun k => match k with
  | _ => .int
abbrev wsJ100 : List Cond := u_ws RJ10 TJ10 0
theorem nmJ10 : ∀ a, a < 0 → ∀ b, b < 0 → a ≠ b → (TJ10 a).2.1 ≠ (TJ10 b).2.1 := by decide +kernel
theorem tyJ10_ok : ∀ k, k < 0 → parseFieldDescriptor (TJ10 k).2.2.1 = some (tyJ10 k) := by decide +kernel
def RL : String := "ShadowCourtLaw"
abbrev cL_law : ByteArray := code
abbrev vwCl : List vw_C := [(RX0, TX0, 6), (RX1, TX1, 6), (RX2, TX2, 12), (RX3, TX3, 11), (RX4, TX4, 9), (RX5, TX5, 2), (RX6, TX6, 5), (RX7, TX7, 4), (RX8, TX8, 5), (RX9, TX9, 3), (RX10, TX10, 12), (RX11, TX11, 61)]
end
section
/-! ===== ints as Int: xJ a is the int whose number is a (wrapped) ===== -/
def xJ (a : Int) : Int32 := Int32.ofInt a
abbrev xR (a : Int) : Prop := -2147483648 ≤ a ∧ a ≤ 2147483647
theorem xJ_toInt {a : Int} (h : xR a) : (xJ a).toInt = a := Int32.toInt_ofInt_of_le (by omega) (by omega)
theorem xJ_of (x : Int32) : xJ x.toInt = x := Int32.ofInt_toInt x
theorem xR_of (x : Int32) : xR x.toInt := by
  have h1 := Int32.toInt_lt x
  have h2 := Int32.le_toInt x
  omega
theorem xJ_ex (x : Int32) : ∃ a : Int, x = xJ a ∧ xR a := ⟨x.toInt, (xJ_of x).symm, xR_of x⟩
theorem xJ_add (a b : Int) : xJ a + xJ b = xJ (a + b) := (Int32.ofInt_add a b).symm
theorem xJ_sub (a b : Int) : xJ a - xJ b = xJ (a - b) := (Int32.ofInt_sub a b).symm
theorem xJ_mul (a b : Int) : xJ a * xJ b = xJ (a * b) := (Int32.ofInt_mul a b).symm
theorem xJ_lt {a b : Int} (ha : xR a) (hb : xR b) : xJ a < xJ b ↔ a < b := by rw [Int32.lt_iff_toInt_lt, xJ_toInt ha, xJ_toInt hb]
theorem xJ_le {a b : Int} (ha : xR a) (hb : xR b) : xJ a ≤ xJ b ↔ a ≤ b := by rw [Int32.le_iff_toInt_le, xJ_toInt ha, xJ_toInt hb]
theorem xJ_eq {a b : Int} (ha : xR a) (hb : xR b) : xJ a = xJ b ↔ a = b := by rw [← Int32.toInt_inj, xJ_toInt ha, xJ_toInt hb]
theorem xJ_0 : xJ 0 = 0 := rfl
theorem xJ_nat (n : Nat) : xJ (n : Int) = nI n := Int32.ofInt_eq_ofNat
theorem xJ_cl {a : Int} (h : xR a) : (xJ a).toNatClampNeg = a.toNat := congrArg Int.toNat (xJ_toInt h)
theorem xJ_in {a : Int} {n : Nat} (h : xR a) (h0 : 0 ≤ a) (h1 : a < (n : Int)) : vp_in (xJ a) n := vp_in_iff.mpr (by rw [xJ_toInt h]; omega)
theorem xJ_nin {a : Int} {n : Nat} (h : xR a) (h0 : 0 ≤ a) (h1 : a < (n : Int)) : ¬ (xJ a < 0 ∨ n ≤ (xJ a).toNatClampNeg) := xJ_in h h0 h1
theorem xJ_div {a b : Int} (ha : xR a) (hb : xR b) (h0 : 0 ≤ a) (h1 : 0 < b) : xJ a / xJ b = xJ (a / b) := by
  obtain ⟨x, rfl⟩ := Int.eq_ofNat_of_zero_le h0
  obtain ⟨y, rfl⟩ := Int.eq_ofNat_of_zero_le (Int.le_of_lt h1)
  rw [xJ_nat, xJ_nat, pk_div (by omega) (by omega) (by omega), ← xJ_nat]
  rfl
theorem xJ_rem {a b : Int} (ha : xR a) (hb : xR b) (h0 : 0 ≤ a) (h1 : 0 < b) : xJ a - xJ a / xJ b * xJ b = xJ (a % b) := by
  obtain ⟨x, rfl⟩ := Int.eq_ofNat_of_zero_le h0
  obtain ⟨y, rfl⟩ := Int.eq_ofNat_of_zero_le (Int.le_of_lt h1)
  rw [xJ_nat, xJ_nat, pk_rem (by omega) (by omega) (by omega), ← xJ_nat]
  rfl
theorem xJ_ne0 {b : Int} (hb : xR b) (h : b ≠ 0) : ¬ xJ b = 0 := fun q => h ((xJ_eq hb (by omega)).mp (q.trans xJ_0.symm))
/-! ===== rows over them ===== -/
section X1
variable {p : Program} {l : Launch} {e : Env} {R : Room} {s : State} {m : MethodId} {args : Array Value} {below : List Frame} {meth : Method} {c : Code} {H : Heap} {locs : List Loc} {cells slots : Nat} {Q : State → Prop}
variable {cc : ByteArray} {pc : Nat} {ls : Array Slot} {rest : List Value}
theorem x_iconst (hx : p.tables.exec = Jvm.exec) (hb : c.code = cc) {n : Int} (hdg : decode cc pc = .ok (.iconst n, 1)) (k : W p l e R s m args below meth c H locs cells slots Q (F0 m (pc + 1) ls (.int (xJ n) :: rest))) : W p l e R s m args below meth c H locs cells slots Q (F0 m pc ls rest) := lv_iconst hx hb hdg rfl k
theorem x_bipush (hx : p.tables.exec = Jvm.exec) (hb : c.code = cc) {n : Int} (hdg : decode cc pc = .ok (.bipush n, 2)) (hv : (Int8.ofInt n).toInt32 = xJ n) (k : W p l e R s m args below meth c H locs cells slots Q (F0 m (pc + 2) ls (.int (xJ n) :: rest))) : W p l e R s m args below meth c H locs cells slots Q (F0 m pc ls rest) := lv_bipush hx hb hdg hv k
theorem x_sipush (hx : p.tables.exec = Jvm.exec) (hb : c.code = cc) {n : Int} (hdg : decode cc pc = .ok (.sipush n, 3)) (hv : (Int16.ofInt n).toInt32 = xJ n) (k : W p l e R s m args below meth c H locs cells slots Q (F0 m (pc + 3) ls (.int (xJ n) :: rest))) : W p l e R s m args below meth c H locs cells slots Q (F0 m pc ls rest) := lv_sipush hx hb hdg hv k
theorem x_iadd (hx : p.tables.exec = Jvm.exec) (hb : c.code = cc) {a b : Int} (hdg : decode cc pc = .ok (.iadd, 1)) (k : W p l e R s m args below meth c H locs cells slots Q (F0 m (pc + 1) ls (.int (xJ (a + b)) :: rest))) : W p l e R s m args below meth c H locs cells slots Q (F0 m pc ls (.int (xJ b) :: .int (xJ a) :: rest)) := lv_iadd hx hb hdg (by rw [xJ_add]; exact k)
theorem x_isub (hx : p.tables.exec = Jvm.exec) (hb : c.code = cc) {a b : Int} (hdg : decode cc pc = .ok (.isub, 1)) (k : W p l e R s m args below meth c H locs cells slots Q (F0 m (pc + 1) ls (.int (xJ (a - b)) :: rest))) : W p l e R s m args below meth c H locs cells slots Q (F0 m pc ls (.int (xJ b) :: .int (xJ a) :: rest)) := lv_isub hx hb hdg (by rw [xJ_sub]; exact k)
theorem x_imul (hx : p.tables.exec = Jvm.exec) (hb : c.code = cc) {a b : Int} (hdg : decode cc pc = .ok (.imul, 1)) (k : W p l e R s m args below meth c H locs cells slots Q (F0 m (pc + 1) ls (.int (xJ (a * b)) :: rest))) : W p l e R s m args below meth c H locs cells slots Q (F0 m pc ls (.int (xJ b) :: .int (xJ a) :: rest)) := lv_imul hx hb hdg (by rw [xJ_mul]; exact k)
theorem x_idiv (hx : p.tables.exec = Jvm.exec) (hb : c.code = cc) {a b : Int} (ha : xR a) (hb2 : xR b) (h0 : 0 ≤ a) (h1 : 0 < b) (hdg : decode cc pc = .ok (.idiv, 1)) (k : W p l e R s m args below meth c H locs cells slots Q (F0 m (pc + 1) ls (.int (xJ (a / b)) :: rest))) : W p l e R s m args below meth c H locs cells slots Q (F0 m pc ls (.int (xJ b) :: .int (xJ a) :: rest)) := lv_idiv hx hb hdg (xJ_ne0 hb2 (by omega)) (by rw [xJ_div ha hb2 h0 h1]; exact k)
theorem x_irem (hx : p.tables.exec = Jvm.exec) (hb : c.code = cc) {a b : Int} (ha : xR a) (hb2 : xR b) (h0 : 0 ≤ a) (h1 : 0 < b) (hdg : decode cc pc = .ok (.irem, 1)) (k : W p l e R s m args below meth c H locs cells slots Q (F0 m (pc + 1) ls (.int (xJ (a % b)) :: rest))) : W p l e R s m args below meth c H locs cells slots Q (F0 m pc ls (.int (xJ b) :: .int (xJ a) :: rest)) := lv_irem hx hb hdg (xJ_ne0 hb2 (by omega)) (by rw [xJ_rem ha hb2 h0 h1]; exact k)
theorem x_idivQ (hx : p.tables.exec = Jvm.exec) (hb : c.code = cc) {a b : Int} (hb2 : xR b) (h1 : b ≠ 0) (hdg : decode cc pc = .ok (.idiv, 1)) (k : ∀ v : Int, xR v → W p l e R s m args below meth c H locs cells slots Q (F0 m (pc + 1) ls (.int (xJ v) :: rest))) : W p l e R s m args below meth c H locs cells slots Q (F0 m pc ls (.int (xJ b) :: .int (xJ a) :: rest)) := lv_idiv hx hb hdg (xJ_ne0 hb2 h1) (by
  obtain ⟨v, hv, hr⟩ := xJ_ex (xJ a / xJ b)
  rw [hv]; exact k v hr)
theorem x_iremQ (hx : p.tables.exec = Jvm.exec) (hb : c.code = cc) {a b : Int} (hb2 : xR b) (h1 : b ≠ 0) (hdg : decode cc pc = .ok (.irem, 1)) (k : ∀ v : Int, xR v → W p l e R s m args below meth c H locs cells slots Q (F0 m (pc + 1) ls (.int (xJ v) :: rest))) : W p l e R s m args below meth c H locs cells slots Q (F0 m pc ls (.int (xJ b) :: .int (xJ a) :: rest)) := lv_irem hx hb hdg (xJ_ne0 hb2 h1) (by
  obtain ⟨v, hv, hr⟩ := xJ_ex (xJ a - xJ a / xJ b * xJ b)
  rw [hv]; exact k v hr)
/-- the top's number gets a name, in its range -/
theorem x_top {a : Int} (k : ∀ v : Int, xJ v = xJ a → xR v → W p l e R s m args below meth c H locs cells slots Q (F0 m pc ls (.int (xJ v) :: rest))) : W p l e R s m args below meth c H locs cells slots Q (F0 m pc ls (.int (xJ a) :: rest)) := by
  obtain ⟨v, hv, hr⟩ := xJ_ex (xJ a)
  rw [hv]; exact k v hv.symm hr
theorem x_iload_n (hx : p.tables.exec = Jvm.exec) (hb : c.code = cc) {k0 : Fin 4} {i nL : Nat} {x : Int32} {lv : List (Nat × Value)} (h : lv_has ls nL lv) (q : Nat) (hq : lv[q]? = some (i, .int x)) (hdg : decode cc pc = .ok (.iload_n k0, 1)) (hi : (k0 : Nat) = i) (k : W p l e R s m args below meth c H locs cells slots Q (F0 m (pc + 1) ls (.int x :: rest))) : W p l e R s m args below meth c H locs cells slots Q (F0 m pc ls rest) := lv_iload_n hx hb hdg hi (lv_at h q hq) k
theorem x_iload (hx : p.tables.exec = Jvm.exec) (hb : c.code = cc) {i nL : Nat} {x : Int32} {lv : List (Nat × Value)} (h : lv_has ls nL lv) (q : Nat) (hq : lv[q]? = some (i, .int x)) (hdg : decode cc pc = .ok (.iload i, 2)) (k : W p l e R s m args below meth c H locs cells slots Q (F0 m (pc + 2) ls (.int x :: rest))) : W p l e R s m args below meth c H locs cells slots Q (F0 m pc ls rest) := lv_iload hx hb hdg (lv_at h q hq) k
theorem x_aload_n (hx : p.tables.exec = Jvm.exec) (hb : c.code = cc) {k0 : Fin 4} {i nL a : Nat} {lv : List (Nat × Value)} (h : lv_has ls nL lv) (q : Nat) (hq : lv[q]? = some (i, .ref a)) (hdg : decode cc pc = .ok (.aload_n k0, 1)) (hi : (k0 : Nat) = i) (k : W p l e R s m args below meth c H locs cells slots Q (F0 m (pc + 1) ls (.ref a :: rest))) : W p l e R s m args below meth c H locs cells slots Q (F0 m pc ls rest) := lv_aload_n hx hb hdg hi (lv_at h q hq) k
theorem x_aload (hx : p.tables.exec = Jvm.exec) (hb : c.code = cc) {i nL a : Nat} {lv : List (Nat × Value)} (h : lv_has ls nL lv) (q : Nat) (hq : lv[q]? = some (i, .ref a)) (hdg : decode cc pc = .ok (.aload i, 2)) (k : W p l e R s m args below meth c H locs cells slots Q (F0 m (pc + 2) ls (.ref a :: rest))) : W p l e R s m args below meth c H locs cells slots Q (F0 m pc ls rest) := lv_aload hx hb hdg (lv_at h q hq) k
theorem x_iinc (hx : p.tables.exec = Jvm.exec) (hb : c.code = cc) {i nL : Nat} {n : Int} {a : Int} {lv lv' : List (Nat × Value)} (h : lv_has ls nL lv) (q : Nat) (hq : lv[q]? = some (i, .int (xJ a))) (hdg : decode cc pc = .ok (.iinc i n, 3)) (hn : i < nL) (hl : (i, Value.int (xJ (a + n))) :: lv.filter (fun q => !(q.1 == i) && !(q.1 + 1 == i && q.2.category == 2)) = lv')
    (kk : ∀ ls' : Array Slot, lv_has ls' nL lv' → W p l e R s m args below meth c H locs cells slots Q (F0 m (pc + 3) ls' rest)) : W p l e R s m args below meth c H locs cells slots Q (F0 m pc ls rest) := lv_iinc hx hb hdg h hq (xJ_add a n) hn hl kk
theorem x_icmp_eq (hx : p.tables.exec = Jvm.exec) (hb : c.code = cc) {a b off : Int} {tgt : Nat} (ha : xR a) (hb2 : xR b) (hdg : decode cc pc = .ok (.if_icmp .eq off, 3)) (ht : (pc : Int) + off = (tgt : Int)) (kt : a = b → W p l e R s m args below meth c H locs cells slots Q (F0 m tgt ls rest)) (kf : a ≠ b → W p l e R s m args below meth c H locs cells slots Q (F0 m (pc + 3) ls rest)) : W p l e R s m args below meth c H locs cells slots Q (F0 m pc ls (.int (xJ b) :: .int (xJ a) :: rest)) := lv_icmp_eq hx hb hdg ht (fun h => kt ((xJ_eq ha hb2).mp h)) (fun h => kf (fun q => h ((xJ_eq ha hb2).mpr q)))
theorem x_icmp_ne (hx : p.tables.exec = Jvm.exec) (hb : c.code = cc) {a b off : Int} {tgt : Nat} (ha : xR a) (hb2 : xR b) (hdg : decode cc pc = .ok (.if_icmp .ne off, 3)) (ht : (pc : Int) + off = (tgt : Int)) (kt : a ≠ b → W p l e R s m args below meth c H locs cells slots Q (F0 m tgt ls rest)) (kf : a = b → W p l e R s m args below meth c H locs cells slots Q (F0 m (pc + 3) ls rest)) : W p l e R s m args below meth c H locs cells slots Q (F0 m pc ls (.int (xJ b) :: .int (xJ a) :: rest)) := lv_icmp_ne hx hb hdg ht (fun h => kt (fun q => h ((xJ_eq ha hb2).mpr q))) (fun h => kf ((xJ_eq ha hb2).mp h))
theorem x_icmp_lt (hx : p.tables.exec = Jvm.exec) (hb : c.code = cc) {a b off : Int} {tgt : Nat} (ha : xR a) (hb2 : xR b) (hdg : decode cc pc = .ok (.if_icmp .lt off, 3)) (ht : (pc : Int) + off = (tgt : Int)) (kt : a < b → W p l e R s m args below meth c H locs cells slots Q (F0 m tgt ls rest)) (kf : b ≤ a → W p l e R s m args below meth c H locs cells slots Q (F0 m (pc + 3) ls rest)) : W p l e R s m args below meth c H locs cells slots Q (F0 m pc ls (.int (xJ b) :: .int (xJ a) :: rest)) := lv_icmp_lt hx hb hdg ht (fun h => kt ((xJ_lt ha hb2).mp h)) (fun h => kf (Int.not_lt.mp fun q => h ((xJ_lt ha hb2).mpr q)))
theorem x_icmp_ge (hx : p.tables.exec = Jvm.exec) (hb : c.code = cc) {a b off : Int} {tgt : Nat} (ha : xR a) (hb2 : xR b) (hdg : decode cc pc = .ok (.if_icmp .ge off, 3)) (ht : (pc : Int) + off = (tgt : Int)) (kt : b ≤ a → W p l e R s m args below meth c H locs cells slots Q (F0 m tgt ls rest)) (kf : a < b → W p l e R s m args below meth c H locs cells slots Q (F0 m (pc + 3) ls rest)) : W p l e R s m args below meth c H locs cells slots Q (F0 m pc ls (.int (xJ b) :: .int (xJ a) :: rest)) := lv_icmp_ge hx hb hdg ht (fun h => kt ((xJ_le hb2 ha).mp h)) (fun h => kf (Int.not_le.mp fun q => h ((xJ_le hb2 ha).mpr q)))
theorem x_icmp_gt (hx : p.tables.exec = Jvm.exec) (hb : c.code = cc) {a b off : Int} {tgt : Nat} (ha : xR a) (hb2 : xR b) (hdg : decode cc pc = .ok (.if_icmp .gt off, 3)) (ht : (pc : Int) + off = (tgt : Int)) (kt : b < a → W p l e R s m args below meth c H locs cells slots Q (F0 m tgt ls rest)) (kf : a ≤ b → W p l e R s m args below meth c H locs cells slots Q (F0 m (pc + 3) ls rest)) : W p l e R s m args below meth c H locs cells slots Q (F0 m pc ls (.int (xJ b) :: .int (xJ a) :: rest)) := lv_icmp_gt hx hb hdg ht (fun h => kt ((xJ_lt hb2 ha).mp h)) (fun h => kf (Int.not_lt.mp fun q => h ((xJ_lt hb2 ha).mpr q)))
theorem x_icmp_le (hx : p.tables.exec = Jvm.exec) (hb : c.code = cc) {a b off : Int} {tgt : Nat} (ha : xR a) (hb2 : xR b) (hdg : decode cc pc = .ok (.if_icmp .le off, 3)) (ht : (pc : Int) + off = (tgt : Int)) (kt : a ≤ b → W p l e R s m args below meth c H locs cells slots Q (F0 m tgt ls rest)) (kf : b < a → W p l e R s m args below meth c H locs cells slots Q (F0 m (pc + 3) ls rest)) : W p l e R s m args below meth c H locs cells slots Q (F0 m pc ls (.int (xJ b) :: .int (xJ a) :: rest)) := lv_icmp_le hx hb hdg ht (fun h => kt ((xJ_le ha hb2).mp h)) (fun h => kf (Int.not_le.mp fun q => h ((xJ_le ha hb2).mpr q)))
theorem x_if_eq (hx : p.tables.exec = Jvm.exec) (hb : c.code = cc) {a off : Int} {tgt : Nat} (ha : xR a) (hdg : decode cc pc = .ok (.ifCond .eq off, 3)) (ht : (pc : Int) + off = (tgt : Int)) (kt : a = 0 → W p l e R s m args below meth c H locs cells slots Q (F0 m tgt ls rest)) (kf : a ≠ 0 → W p l e R s m args below meth c H locs cells slots Q (F0 m (pc + 3) ls rest)) : W p l e R s m args below meth c H locs cells slots Q (F0 m pc ls (.int (xJ a) :: rest)) := lv_if_eq hx hb hdg ht (fun h => kt ((xJ_eq ha (by omega)).mp h)) (fun h => kf (fun q => h ((xJ_eq ha (by omega)).mpr q)))
theorem x_if_ne (hx : p.tables.exec = Jvm.exec) (hb : c.code = cc) {a off : Int} {tgt : Nat} (ha : xR a) (hdg : decode cc pc = .ok (.ifCond .ne off, 3)) (ht : (pc : Int) + off = (tgt : Int)) (kt : a ≠ 0 → W p l e R s m args below meth c H locs cells slots Q (F0 m tgt ls rest)) (kf : a = 0 → W p l e R s m args below meth c H locs cells slots Q (F0 m (pc + 3) ls rest)) : W p l e R s m args below meth c H locs cells slots Q (F0 m pc ls (.int (xJ a) :: rest)) := lv_if_ne hx hb hdg ht (fun h => kt (fun q => h ((xJ_eq ha (by omega)).mpr q))) (fun h => kf ((xJ_eq ha (by omega)).mp h))
theorem x_if_lt (hx : p.tables.exec = Jvm.exec) (hb : c.code = cc) {a off : Int} {tgt : Nat} (ha : xR a) (hdg : decode cc pc = .ok (.ifCond .lt off, 3)) (ht : (pc : Int) + off = (tgt : Int)) (kt : a < 0 → W p l e R s m args below meth c H locs cells slots Q (F0 m tgt ls rest)) (kf : 0 ≤ a → W p l e R s m args below meth c H locs cells slots Q (F0 m (pc + 3) ls rest)) : W p l e R s m args below meth c H locs cells slots Q (F0 m pc ls (.int (xJ a) :: rest)) := lv_if_lt hx hb hdg ht (fun h => kt ((xJ_lt ha (by omega)).mp h)) (fun h => kf (Int.not_lt.mp fun q => h ((xJ_lt ha (by omega)).mpr q)))
theorem x_if_ge (hx : p.tables.exec = Jvm.exec) (hb : c.code = cc) {a off : Int} {tgt : Nat} (ha : xR a) (hdg : decode cc pc = .ok (.ifCond .ge off, 3)) (ht : (pc : Int) + off = (tgt : Int)) (kt : 0 ≤ a → W p l e R s m args below meth c H locs cells slots Q (F0 m tgt ls rest)) (kf : a < 0 → W p l e R s m args below meth c H locs cells slots Q (F0 m (pc + 3) ls rest)) : W p l e R s m args below meth c H locs cells slots Q (F0 m pc ls (.int (xJ a) :: rest)) := lv_if_ge hx hb hdg ht (fun h => kt ((xJ_le (by omega) ha).mp h)) (fun h => kf (Int.not_le.mp fun q => h ((xJ_le (by omega) ha).mpr q)))
theorem x_if_gt (hx : p.tables.exec = Jvm.exec) (hb : c.code = cc) {a off : Int} {tgt : Nat} (ha : xR a) (hdg : decode cc pc = .ok (.ifCond .gt off, 3)) (ht : (pc : Int) + off = (tgt : Int)) (kt : 0 < a → W p l e R s m args below meth c H locs cells slots Q (F0 m tgt ls rest)) (kf : a ≤ 0 → W p l e R s m args below meth c H locs cells slots Q (F0 m (pc + 3) ls rest)) : W p l e R s m args below meth c H locs cells slots Q (F0 m pc ls (.int (xJ a) :: rest)) := lv_if_gt hx hb hdg ht (fun h => kt ((xJ_lt (by omega) ha).mp h)) (fun h => kf (Int.not_lt.mp fun q => h ((xJ_lt (by omega) ha).mpr q)))
theorem x_if_le (hx : p.tables.exec = Jvm.exec) (hb : c.code = cc) {a off : Int} {tgt : Nat} (ha : xR a) (hdg : decode cc pc = .ok (.ifCond .le off, 3)) (ht : (pc : Int) + off = (tgt : Int)) (kt : a ≤ 0 → W p l e R s m args below meth c H locs cells slots Q (F0 m tgt ls rest)) (kf : 0 < a → W p l e R s m args below meth c H locs cells slots Q (F0 m (pc + 3) ls rest)) : W p l e R s m args below meth c H locs cells slots Q (F0 m pc ls (.int (xJ a) :: rest)) := lv_if_le hx hb hdg ht (fun h => kt ((xJ_le ha (by omega)).mp h)) (fun h => kf (Int.not_le.mp fun q => h ((xJ_le ha (by omega)).mpr q)))
end X1
end
section
/-! ===== the table: which words hold, for every contract the same ===== -/
def xNOK : Cond → Bool
  | .fieldLinkNest _ _ _ _ _ _ => true
  | .methodLinkNest _ _ _ _ => true
  | _ => false
def xTB : List Cond := lw_tbl.filter goodWord
def xNL : List Cond := lw_tbl.filter xNOK
theorem xq {w : Cond} (i : Nat) (h : lw_tbl[i]? = some w) (hg : goodWord w = true) : w ∈ xTB := List.mem_filter.mpr ⟨List.mem_of_getElem? h, hg⟩
theorem xn {w : Cond} (i : Nat) (h : lw_tbl[i]? = some w) (hg : xNOK w = true) : w ∈ xNL := List.mem_filter.mpr ⟨List.mem_of_getElem? h, hg⟩
theorem xTB_good {w : Cond} (h : w ∈ xTB) : goodWord w = true := (List.mem_filter.mp h).2
def xws (y : MethodName) (cc : ByteArray) (n : Nat) (ret : Option FieldType) : List Cond := .code y cc n ret :: xTB
theorem xws_good {Ts : List Cond} {y : MethodName} {cc : ByteArray} {n : Nat} {ret : Option FieldType} (hTs : ∀ w ∈ xTB, w ∈ Ts) (h : Cond.code y cc n ret ∈ xTB) : GoodIn Ts (xws y cc n ret) := fun w hw => by
  rcases List.mem_cons.mp hw with rfl | hw
  · exact ⟨hTs _ h, good_of_word (xTB_good h)⟩
  · exact ⟨hTs _ hw, good_of_word (xTB_good hw)⟩
theorem xNw_move {w : Cond} (hw : xNOK w = true) {s U : State} (hW : s.WarmedH U.vm) (h : va_Nw w s) : va_Nw w U := by
  cases w <;> first | exact va_Nw.warmF hW h | exact va_Nw.warmM hW h | cases hw
theorem xNw_same {w : Cond} (hw : xNOK w = true) {s U : State} (hv : s.vm = U.vm) (h : va_Nw w s) : va_Nw w U := by
  cases w <;> first | exact va_Nw.same rfl hv h | cases hw
/-! ===== the state: numbers of cells by their places; the cells lie one behind the other from h0 on ===== -/
abbrev xS : Type := Nat → Int → Int
def xU (σ : xS) (k : Nat) (j v : Int) : xS := fun k2 j2 => if k2 = k ∧ j2 = j then v else σ k2 j2
theorem xU_s (σ : xS) (k : Nat) (j v : Int) : xU σ k j v k j = v := if_pos ⟨rfl, rfl⟩
theorem xU_k (σ : xS) {k k2 : Nat} (j v : Int) (h : k2 ≠ k) : xU σ k j v k2 = σ k2 := funext fun j2 => if_neg (fun q => h q.1)
theorem xU_j (σ : xS) {k : Nat} {j j2 : Int} (v : Int) (h : j2 ≠ j) : xU σ k j v k j2 = σ k j2 := if_neg (fun q => h q.2)
theorem xU_i (σ : xS) (k : Nat) (j v j2 : Int) : xU σ k j v k j2 = if j2 = j then v else σ k j2 := by by_cases h : j2 = j <;> simp [xU, h]
abbrev xG : Type := ClassId × ClassId × ClassId × ClassId × ClassId
abbrev xtys (g : xG) : List (ClassId × FieldType) := [(g.1, .int), (g.2.1, .boolean), (g.2.2.1, .byte), (g.2.2.2.1, .array .int), (g.2.2.2.2, .object "ShadowCourt$Day")]
def xtab : List (Nat × Nat) := [(5, 10), (5, 8), (0, 260), (5, 6), (0, 100), (0, 100), (3, 100), (0, 100), (0, 100), (0, 100), (0, 100), (0, 100), (0, 100), (0, 100), (0, 100), (0, 100), (0, 100), (0, 100), (0, 100), (0, 100), (0, 100), (0, 100), (0, 100), (0, 100), (0, 100), (0, 100), (0, 100), (0, 100), (0, 100), (0, 100), (0, 100), (0, 100), (0, 100), (0, 100), (0, 100), (0, 100), (0, 100), (0, 100), (0, 100), (0, 100), (0, 100), (0, 100), (0, 100), (0, 100), (0, 100), (0, 100), (0, 100), (0, 100), (0, 100), (0, 100), (0, 100), (0, 100), (0, 100), (0, 100), (0, 100), (0, 100), (0, 100), (0, 100), (0, 100), (0, 100), (0, 100), (0, 100), (0, 100), (0, 100), (0, 100), (0, 100), (0, 100), (0, 100), (0, 100), (0, 100), (0, 100), (0, 100), (0, 100), (0, 100), (0, 100), (0, 100), (0, 100), (0, 100), (0, 100), (0, 100), (0, 100), (0, 100), (0, 100), (0, 100), (0, 100), (0, 100), (0, 100), (0, 100), (0, 100), (0, 100), (0, 100), (0, 100), (0, 100), (0, 100), (0, 100), (0, 100), (0, 100), (0, 100), (0, 100), (0, 100), (0, 100), (0, 100), (0, 100), (0, 100), (0, 100), (0, 100), (0, 100), (1, 100), (0, 100), (5, 4), (0, 300), (0, 300), (0, 16), (0, 16), (0, 16), (0, 7), (0, 64), (5, 5), (5, 4), (0, 300), (0, 300), (0, 16), (0, 16), (0, 16), (0, 7), (0, 64), (5, 9), (0, 60), (5, 0), (0, 4), (5, 7), (0, 100), (0, 100), (1, 100), (0, 10), (0, 10), (5, 2), (0, 2), (3, 2), (0, 0), (0, 0), (0, 2), (0, 10), (0, 10), (0, 10), (1, 10), (5, 2), (0, 2), (3, 2), (0, 0), (0, 0), (0, 2), (0, 10), (0, 10), (0, 10), (1, 10), (5, 3), (4, 6), (5, 2), (0, 2), (3, 2), (0, 0), (0, 0), (0, 2), (0, 10), (0, 10), (0, 10), (1, 10), (5, 2), (0, 2), (3, 2), (0, 0), (0, 0), (0, 2), (0, 10), (0, 10), (0, 10), (1, 10), (5, 2), (0, 2), (3, 2), (0, 0), (0, 0), (0, 2), (0, 10), (0, 10), (0, 10), (1, 10), (5, 2), (0, 2), (3, 2), (0, 0), (0, 0), (0, 2), (0, 10), (0, 10), (0, 10), (1, 10), (5, 2), (0, 2), (3, 2), (0, 0), (0, 0), (0, 2), (0, 10), (0, 10), (0, 10), (1, 10), (5, 2), (0, 2), (3, 2), (0, 0), (0, 0), (0, 2), (0, 10), (0, 10), (0, 10), (1, 10), (3, 5), (0, 1), (0, 1), (0, 1), (0, 1), (0, 1), (0, 5), (0, 5), (0, 100), (3, 31), (0, 100), (0, 100), (0, 100), (0, 100), (0, 100), (0, 100), (0, 100), (0, 100), (0, 100), (0, 100), (0, 100), (0, 100), (0, 100), (0, 100), (0, 100), (0, 100), (0, 100), (0, 100), (0, 100), (0, 100), (0, 100), (0, 100), (0, 100), (0, 100), (0, 100), (0, 100), (0, 100), (0, 100), (0, 100), (0, 100), (0, 100), (0, 100), (0, 100), (5, 1), (0, 10), (0, 10), (0, 100), (0, 100), (0, 10), (0, 8), (5, 11), (0, 39), (0, 39), (0, 39), (0, 100), (0, 4), (0, 2), (2, 120), (2, 260), (0, 260), (0, 260), (0, 16), (0, 16), (0, 16), (0, 16), (0, 260), (0, 16), (0, 16), (0, 16), (0, 16), (0, 100), (2, 60), (0, 2), (0, 2), (0, 2), (0, 260), (0, 7), (0, 100), (0, 100), (0, 10), (0, 10), (1, 100), (1, 1024), (0, 100), (0, 3100), (0, 3100), (0, 10000), (0, 100), (0, 8), (0, 8), (0, 2), (2, 120)]
def xrow (σ : xS) (k j : Nat) : Nat := if k = 6 then 7 + j else if k = 218 then 219 + j else if k = 227 then 228 + j else if k = 157 then 158 + 10 * j else (σ k j).toNat
def xobj (h0 : Nat) (σ : xS) (k c : Nat) : List Value :=
  if c = 0 then [.ref (h0 + 3), .ref (h0 + 109), .ref (h0 + (k + 1)), .ref (h0 + 130), .ref (h0 + (k + 6)), .ref (h0 + (k + 7))]
  else if c = 1 then [.ref (h0 + 128), .ref (h0 + (k + 1)), .ref (h0 + (k + 2)), .ref (h0 + (k + 3)), .ref (h0 + (k + 4)), .ref (h0 + (k + 5))]
  else if c = 2 then [.ref (h0 + (k + 1)), .ref (h0 + (k + 2)), .ref (h0 + (k + 5)), .ref (h0 + (k + 6)), .ref (h0 + (k + 7)), .ref (h0 + (k + 8)), .ref (h0 + (k + 9)), .int (xJ (σ k 7)), .int (xJ (σ k 8)), .int (xJ (σ k 9)), .int (xJ (σ k 10)), .int (xJ (σ k 11))]
  else if c = 3 then [.ref (h0 + 128), .ref (h0 + 136), .ref (h0 + 157), .ref (h0 + 218), .ref (h0 + 224), .ref (h0 + 225), .int (xJ (σ k 6)), .ref (h0 + 226), .ref (h0 + 227), .ref (h0 + 259), .ref (h0 + 260)]
  else if c = 4 then [.ref (h0 + (k + 1)), .ref (h0 + (k + 2)), .int (xJ (σ k 2)), .ref (h0 + (k + 3)), .ref (h0 + (k + 4)), .ref (h0 + (k + 5)), .int (xJ (σ k 6)), .ref (h0 + (k + 6)), .ref (h0 + (k + 7))]
  else if c = 5 then [.ref (h0 + 1), .ref (h0 + 118)]
  else if c = 6 then [.ref (h0 + (k + 1)), .ref (h0 + (k + 2)), .ref (h0 + (k + 3)), .ref (h0 + (k + 104)), .ref (h0 + (k + 105))]
  else if c = 7 then [.ref (h0 + (k + 1)), .ref (h0 + (k + 2)), .ref (h0 + (k + 3)), .int (xJ (σ k 3))]
  else if c = 8 then [.ref (h0 + (k + 1)), .int (xJ (σ k 1)), .int (xJ (σ k 2)), .int (xJ (σ k 3)), .int (xJ (σ k 4))]
  else if c = 9 then [.ref (h0 + 1), .ref (h0 + (k + 1)), .int (xJ (σ k 2))]
  else if c = 10 then [.ref (h0 + 1), .ref (h0 + 3), .ref (h0 + 109), .ref (h0 + 117), .ref (h0 + 126), .ref (h0 + 128), .ref (h0 + 156), .ref (h0 + 261), .ref (h0 + 136), .ref (h0 + 146), .ref (h0 + 267), .int (xJ (σ k 11))]
  else if c = 11 then [.ref (h0 + 269), .ref (h0 + 270), .ref (h0 + 271), .ref (h0 + 272), .ref (h0 + 273), .ref (h0 + 274), .ref (h0 + 275), .ref (h0 + 276), .int (xJ (σ k 8)), .int (xJ (σ k 9)), .int (xJ (σ k 10)), .int (xJ (σ k 11)), .int (xJ (σ k 12)), .int (xJ (σ k 13)), .int (xJ (σ k 14)), .int (xJ (σ k 15)), .int (xJ (σ k 16)), .int (xJ (σ k 17)), .ref (h0 + 277), .ref (h0 + 278), .ref (h0 + 279), .ref (h0 + 280), .ref (h0 + 281), .ref (h0 + 282), .ref (h0 + 283), .ref (h0 + 284), .ref (h0 + 285), .ref (h0 + 286), .ref (h0 + 287), .ref (h0 + 288), .ref (h0 + 289), .ref (h0 + 290), .ref (h0 + 291), .ref (h0 + 292), .int (xJ (σ k 34)), .int (xJ (σ k 35)), .int (xJ (σ k 36)), .int (xJ (σ k 37)), .ref (h0 + 293), .ref (h0 + 294), .ref (h0 + 295), .int (xJ (σ k 41)), .int (xJ (σ k 42)), .int (xJ (σ k 43)), .int (xJ (σ k 44)), .ref (h0 + 296), .ref (h0 + 297), .ref (h0 + 298), .int (xJ (σ k 48)), .ref (h0 + 299), .ref (h0 + 300), .ref (h0 + 301), .ref (h0 + 302), .ref (h0 + 303), .ref (h0 + 304), .ref (h0 + 305), .ref (h0 + 306), .ref (h0 + 307), .int (xJ (σ k 58)), .ref (h0 + 308), .ref (h0 + 309)]
  else []
def xcel (h0 : Nat) (g : xG) (σ : xS) (k : Nat) : va_E := match if k < 310 then xtab.getD k (9, 0) else (0, (σ 999998 k).toNat) with
  | (0, n) => .inl (g.1, n, .inl (fun j => xJ (σ k j)))
  | (1, n) => .inl (g.2.1, n, .inl (fun j => xJ (σ k j)))
  | (2, n) => .inl (g.2.2.1, n, .inl (fun j => xJ (σ k j)))
  | (3, n) => .inl (g.2.2.2.1, n, .inr (.inr (.inr (.inr (fun j => some (h0 + xrow σ k j))))))
  | (4, n) => .inl (g.2.2.2.2, n, .inr (.inr (.inr (.inr (fun j => some (h0 + xrow σ k j))))))
  | (_, c) => .inr (c, xobj h0 σ k c)
theorem xobj_f (h0 : Nat) {σ τ : xS} {k : Nat} (c : Nat) (h : τ k = σ k) : xobj h0 τ k c = xobj h0 σ k c := by unfold xobj; rw [h]
theorem xcel_f (h0 : Nat) (g : xG) {σ τ : xS} {k : Nat} (h : τ k = σ k) (h2 : k < 310 ∨ τ 999998 k = σ 999998 k) : xcel h0 g τ k = xcel h0 g σ k := by
  have e : (if k < 310 then xtab.getD k (9, 0) else (0, (τ 999998 k).toNat)) = (if k < 310 then xtab.getD k (9, 0) else (0, (σ 999998 k).toNat)) := by
    by_cases q : k < 310
    · rw [if_pos q, if_pos q]
    · rcases h2 with h2 | h2
      · exact absurd h2 q
      · rw [if_neg q, if_neg q, h2]
  unfold xcel
  rw [e]
  split <;> simp only [h, xrow, xobj_f h0 _ h]
def xV (σ : xS) (k : Nat) : Prop := k < 310 ∨ (k < 999990 ∧ σ 999997 k = 1)
def xSt (D : va_G) (g : xG) (h0 : Nat) (σ : xS) (H : Heap) : Prop := ∀ k : Nat, xV σ k → va_at D vwCl (h0 + k, xcel h0 g σ k) H
def xRR (σ : xS) : Prop := ∀ (k : Nat) (j : Int), xR (σ k j)
def xA (h0 : Nat) : Nat → Prop := fun q => h0 ≤ q
def xW (D : va_G) (g : xG) (h0 : Nat) (s : State) (H : Heap) (locs : List Loc) (σ : xS) : Prop := xSt D g h0 σ H ∧ xRR σ ∧ va_S (xA h0) s.heap H locs
def xwx : Nat → Int := fun j => [0, 1, 1, 1, 0, -1, -1, -1].getD j 0
def xwy : Nat → Int := fun j => [1, 1, 0, -1, -1, -1, 0, 1].getD j 0
def xlt : Nat → Int := fun j => [116, 104, 106, 102, 119, 98, 115].getD j 0
def xZs (T : Nat × Nat × Nat) (h0 : Nat) (U : State) (H : Heap) : Prop :=
  (va_Z "ShadowCourt" "WAY_X" "[I" (.ref T.1) (xA h0) U H ∧ va_T .int T.1 8 (fun j => .int (xJ (xwx j))) (xA h0) U H) ∧
  (va_Z "ShadowCourt" "WAY_Y" "[I" (.ref T.2.1) (xA h0) U H ∧ va_T .int T.2.1 8 (fun j => .int (xJ (xwy j))) (xA h0) U H) ∧
  (va_Z "ShadowCourt$Law" "LETTERS" "[I" (.ref T.2.2) (xA h0) U H ∧ va_T .int T.2.2 7 (fun j => .int (xJ (xlt j))) (xA h0) U H)
def xE (D : va_G) (g : xG) (T : Nat × Nat × Nat) (h0 : Nat) (U : State) : Prop := va_K D vwCl (xtys g) U ∧ (∀ w ∈ xNL, va_Nw w U) ∧ xZs T h0 U U.heap
theorem xZs_move {T : Nat × Nat × Nat} {h0 : Nat} {s U : State} {H : Heap} (ha : s.vm.Alike U.vm) (h : xZs T h0 s s.heap) (hH : ∀ a : Nat, a < s.heap.size → ¬ xA h0 a → H[a]? = s.heap[a]?) : xZs T h0 U H :=
  ⟨⟨(h.1.1.moved ha).kept hH, (h.1.2.moved ha).kept hH⟩, ⟨(h.2.1.1.moved ha).kept hH, (h.2.1.2.moved ha).kept hH⟩, ⟨(h.2.2.1.moved ha).kept hH, (h.2.2.2.moved ha).kept hH⟩⟩
theorem xE_move {D : va_G} {g : xG} {T : Nat × Nat × Nat} {h0 : Nat} {s U : State} {H : Heap} {locs : List Loc} (h : xE D g T h0 s) (hS : va_S (xA h0) s.heap H locs) (hW : s.WarmedH U.vm) (hU : U.heap = H) : xE D g T h0 U :=
  ⟨va_K.moved hW.alike h.1, fun w hw => xNw_move (List.mem_filter.mp hw).2 hW (h.2.1 w hw), xZs_move hW.alike h.2.2 (fun a h1 h2 => by rw [hU]; exact hS.2.1 a h1 h2)⟩
abbrev xP (av : List Value) (D : va_G) (g : xG) (T : Nat × Nat × Nat) (h0 : Nat) (σ : xS) : Array Value → State → Prop := va_Pc av (fun U => xE D g T h0 U ∧ xSt D g h0 σ U.heap)
theorem xP_blind {av : List Value} {D : va_G} {g : xG} {T : Nat × Nat × Nat} {h0 : Nat} {σ : xS} : FrameBlind (xP av D g T h0 σ) := fun a U gf mk q => by
  obtain ⟨q0, ⟨qK, qN, qZ⟩, qP⟩ := q
  exact ⟨q0, ⟨va_K.moved (u := U) (U := U.calling gf mk a) (Vm.Alike.refl U.vm) qK, fun w hw => xNw_same (s := U) (U := U.calling gf mk a) (List.mem_filter.mp hw).2 rfl (qN w hw), xZs_move (s := U) (U := U.calling gf mk a) (Vm.Alike.refl U.vm) qZ (fun _ _ _ => rfl)⟩, qP⟩
def xQi (D : va_G) (g : xG) (h0 : Nat) (post : Int → xS → Prop) : Array Value → State → Outcome → State → Prop := fun _ st o t => (∃ (r : Int) (σ : xS), o = .returned (some (.int (xJ r))) ∧ xR r ∧ post r σ ∧ xRR σ ∧ xSt D g h0 σ t.heap) ∧ va_F (xA h0) st t
def xQv (D : va_G) (g : xG) (h0 : Nat) (post : xS → Prop) : Array Value → State → Outcome → State → Prop := fun _ st o t => (∃ (σ : xS), o = .returned none ∧ post σ ∧ xRR σ ∧ xSt D g h0 σ t.heap) ∧ va_F (xA h0) st t
def xQr (D : va_G) (g : xG) (h0 : Nat) (post : Nat → xS → Prop) : Array Value → State → Outcome → State → Prop := fun _ st o t => (∃ (k : Nat) (σ : xS), o = .returned (some (.ref (h0 + k))) ∧ post k σ ∧ xRR σ ∧ xSt D g h0 σ t.heap) ∧ va_F (xA h0) st t
theorem xE_N {D : va_G} {g : xG} {T : Nat × Nat × Nat} {h0 : Nat} {s : State} {args : Array Value} (h : xE D g T h0 s) {w : Cond} (hw : w ∈ xNL) (hk : w.onTables = true) : w.before args s = true := va_Nw.use hk (h.2.1 w hw)
/-! ===== a method, from its entry ===== -/
theorem x_met {l : Launch} {y : MethodName} {cc : ByteArray} {maxL : Nat} {ret : Option FieldType} {rm : Room} {av : List Value} {D : va_G} {g : xG} {T : Nat × Nat × Nat} {h0 : Nat} {σ : xS} {Qc : Array Value → State → Outcome → State → Prop} {mc ms : Nat} (hσ : xRR σ) (hy : plainName y.cls = true) (hn : (lg_sl av).length ≤ maxL)
    (body : ∀ (p : Program) (e : Env) (s : State) (m : MethodId) (args : Array Value) (below : List Frame) (meth : Method) (c : Code), p.tables.exec = Jvm.exec → c.code = cc → meth.sig.returnType = ret → c.maxLocals = maxL → s.vm.findClass y.cls = some m.cls → (∀ w ∈ xTB, w.before args s = true) → meth.locks = false → meth.name = y.name → xE D g T h0 s → xW D g h0 s s.heap [] σ → ∀ ls : Array Slot, lv_has ls maxL (lv_args 0 av) →
      W p l e rm s m args below meth c s.heap [] 0 0 (MQ below Qc args s mc ms (xA h0)) (F0 m 0 ls [])) : Met l y (xws y cc maxL ret) rm (xP av D g T h0 σ) Qc mc ms (xA h0) := by
  refine Met.ofW (cc := cc) (maxL := maxL) (ret := ret) (ws' := xTB) hy rfl ?_
  intro p e s m args below meth c s₁ B hml hv
  obtain ⟨rfl, hE, hH⟩ := hv
  have hts := atoms_spec (ws := xws y cc maxL ret) B.pre
  have hl := lv_entry av (n := maxL) hn
  rw [lg_entry_eq]
  exact body p e s m _ below meth c B.exec B.bytes B.returns hml (findClass_of_methodNamed B.named) (fun w hw => hts w (List.mem_cons_of_mem _ hw)) B.notSynchronized (name_of_methodNamed B.named B.method).1 hE ⟨hH, hσ, va_S.rf⟩ _ hl
/-! ===== rows on the state ===== -/
section X2
variable {p : Program} {l : Launch} {e : Env} {R : Room} {s : State} {m : MethodId} {args : Array Value} {below : List Frame} {meth : Method} {c : Code} {H : Heap} {locs : List Loc} {cells slots : Nat} {Q : State → Prop}
variable {cc : ByteArray} {pc : Nat} {ls : Array Slot} {rest st0 : List Value} {D : va_G} {g : xG} {T : Nat × Nat × Nat} {h0 : Nat} {σ : xS}
/-- ends -/
theorem x_iret (hx : p.tables.exec = Jvm.exec) (hb : c.code = cc) (hr : meth.sig.returnType = some .int) (hlk : meth.locks = false) {post : Int → xS → Prop} {r : Int} (hW : xW D g h0 s H locs σ) (hR : xR r) (hp : post r σ) (hdg : decode cc pc = .ok (.ireturn, 1)) : W p l e R s m args below meth c H locs cells slots (MQ below (xQi D g h0 post) args s cells slots (xA h0)) (F0 m pc ls [.int (xJ r)]) :=
  W.iret hx hb hr (fun t ht _ => ⟨⟨r, σ, rfl, hR, hp, hW.2.1, by rw [ht]; exact hW.1⟩, hW.2.2.F ht⟩) hW.2.2.2.2 hdg hlk
theorem x_zret (hx : p.tables.exec = Jvm.exec) (hb : c.code = cc) (hr : meth.sig.returnType = some .boolean) (hlk : meth.locks = false) {post : Int → xS → Prop} {r : Int} (hW : xW D g h0 s H locs σ) (hR : r = 0 ∨ r = 1) (hp : post r σ) (hdg : decode cc pc = .ok (.ireturn, 1)) : W p l e R s m args below meth c H locs cells slots (MQ below (xQi D g h0 post) args s cells slots (xA h0)) (F0 m pc ls [.int (xJ r)]) :=
  W.zret hx hb hr (by rcases hR with rfl | rfl <;> rfl) (fun t ht _ => ⟨⟨r, σ, rfl, by omega, hp, hW.2.1, by rw [ht]; exact hW.1⟩, hW.2.2.F ht⟩) hW.2.2.2.2 hdg hlk
theorem x_vret (hx : p.tables.exec = Jvm.exec) (hb : c.code = cc) (hr : meth.sig.returnType = none) (hlk : meth.locks = false) {post : xS → Prop} (hW : xW D g h0 s H locs σ) (hp : post σ) (hdg : decode cc pc = .ok (.return_, 1)) : W p l e R s m args below meth c H locs cells slots (MQ below (xQv D g h0 post) args s cells slots (xA h0)) (F0 m pc ls []) :=
  W.vret hx hb hr (fun t ht _ => ⟨⟨σ, rfl, hp, hW.2.1, by rw [ht]; exact hW.1⟩, hW.2.2.F ht⟩) hW.2.2.2.2 hdg hlk
theorem x_aret (hx : p.tables.exec = Jvm.exec) (hb : c.code = cc) {rt : FieldType} (hr : meth.sig.returnType = some rt) (hrt : (∃ n, rt = .object n) ∨ ∃ t, rt = .array t) (hlk : meth.locks = false) {post : Nat → xS → Prop} {k : Nat} (hW : xW D g h0 s H locs σ) (hp : post k σ) (hdg : decode cc pc = .ok (.areturn, 1)) : W p l e R s m args below meth c H locs cells slots (MQ below (xQr D g h0 post) args s cells slots (xA h0)) (F0 m pc ls [.ref (h0 + k)]) :=
  W.aret hx hb hr hrt (Or.inr ⟨_, rfl⟩) (fun t ht _ => ⟨⟨k, σ, rfl, hp, hW.2.1, by rw [ht]; exact hW.1⟩, hW.2.2.F ht⟩) hW.2.2.2.2 hdg hlk
/-- a class of ours -/
def xCls (C : String) (t : u_T) (N ci : Nat) (ty : Nat → FieldType) : Prop := (∀ w ∈ u_ws C t N, w ∈ xTB) ∧ vwCl[ci]? = some (C, t, N) ∧ (∀ k, k < N → parseFieldDescriptor (t k).2.2.1 = some (ty k)) ∧ (∀ a, a < N → ∀ b, b < N → a ≠ b → (t a).2.1 ≠ (t b).2.1)
theorem x_get {own C : String} {t : u_T} {N ci index k j : Nat} {ty : Nat → FieldType} {v : Value} (hx : p.tables.exec = Jvm.exec) (hb : c.code = cc) (hown : s.vm.findClass own = some m.cls) (hT : ∀ w ∈ xTB, w.before args s = true) (hE : xE D g T h0 s) (hW : xW D g h0 s H locs σ) (hc : xCls C t N ci ty) (hk : xV σ k) (hcel : xcel h0 g σ k = .inr (ci, xobj h0 σ k ci)) (hj : j < N) (hv : (xobj h0 σ k ci)[j]? = some v) (hl : Cond.fieldLink own index (t j).1 (t j).2.1 (t j).2.2.1 ∈ xTB) (hdg : decode cc pc = .ok (.getfield index, 3))
    (kk : W p l e R s m args below meth c H locs cells slots Q (F0 m (pc + 3) ls (v :: rest))) : W p l e R s m args below meth c H locs cells slots Q (F0 m pc ls (.ref (h0 + k) :: rest)) :=
  va_get (ws := [(h0 + k, .inr (ci, xobj h0 σ k ci))]) hx hb hT hc.1 hown hE.1 (fun i q hq => by
    match i, hq with
    | 0, hq => cases hq; have h9 := hW.1 k hk; rw [hcel] at h9; exact h9) 0 rfl hc.2.1 j hj (hT _ hl) (fun _ h9 => h9) hv hdg kk
theorem x_getN {own C host : String} {t : u_T} {N ci index k j : Nat} {ty : Nat → FieldType} {v : Value} (hx : p.tables.exec = Jvm.exec) (hb : c.code = cc) (hown : s.vm.findClass own = some m.cls) (hT : ∀ w ∈ xTB, w.before args s = true) (hE : xE D g T h0 s) (hW : xW D g h0 s H locs σ) (hc : xCls C t N ci ty) (hk : xV σ k) (hcel : xcel h0 g σ k = .inr (ci, xobj h0 σ k ci)) (hj : j < N) (hv : (xobj h0 σ k ci)[j]? = some v) (hl : Cond.fieldLinkNest own index (t j).1 (t j).2.1 (t j).2.2.1 host ∈ xNL) (hdg : decode cc pc = .ok (.getfield index, 3))
    (kk : W p l e R s m args below meth c H locs cells slots Q (F0 m (pc + 3) ls (v :: rest))) : W p l e R s m args below meth c H locs cells slots Q (F0 m pc ls (.ref (h0 + k) :: rest)) :=
  va_getN (ws := [(h0 + k, .inr (ci, xobj h0 σ k ci))]) hx hb hT hc.1 hown hE.1 (fun i q hq => by
    match i, hq with
    | 0, hq => cases hq; have h9 := hW.1 k hk; rw [hcel] at h9; exact h9) 0 rfl hc.2.1 j hj (xE_N hE hl rfl) (fun _ h9 => h9) hv hdg kk
/-- what a store leaves: the other cells as they were -/
theorem xW_put {k : Nat} {τ : xS} {H1 : Heap} {i : Nat} (hW : xW D g h0 s H locs σ) (hk : k < 310) (hz : H1.size = H.size) (ho : ∀ q : Nat, q ≠ h0 + k → H1[q]? = H[q]?) (hτ : ∀ k2, k2 ≠ k → τ k2 = σ k2) (hR : xRR τ) (h : va_at D vwCl (h0 + k, xcel h0 g τ k) H1) : xW D g h0 s H1 (locs ++ [⟨h0 + k, i⟩]) τ := by
  refine ⟨fun k2 hk2 => ?_, hR, hW.2.2.put hz ho (Nat.le_add_right _ _)⟩
  have e8 : τ 999998 = σ 999998 := hτ _ (by omega)
  have e7 : τ 999997 = σ 999997 := hτ _ (by omega)
  by_cases e : k2 = k
  · subst e; exact h
  · have h2 := hW.1 k2 (by unfold xV at hk2 ⊢; rw [e7] at hk2; exact hk2)
    rw [xcel_f h0 g (hτ k2 e) (Or.inr (by rw [e8]))]
    exact h2.kept (ho _ (fun q => e (by simpa using q)))
theorem xRR_U {k : Nat} {j v : Int} (h : xRR σ) (hv : xR v) : xRR (xU σ k j v) := fun k2 j2 => by
  unfold xU
  split
  · exact hv
  · exact h k2 j2
theorem x_put {own C : String} {t : u_T} {N ci index k j : Nat} {ty : Nat → FieldType} {a : Int} (hx : p.tables.exec = Jvm.exec) (hb : c.code = cc) (hown : s.vm.findClass own = some m.cls) (hT : ∀ w ∈ xTB, w.before args s = true) (hE : xE D g T h0 s) (hW : xW D g h0 s H locs σ) (hc : xCls C t N ci ty) (hk : k < 310) (hcel : ∀ σ : xS, xcel h0 g σ k = .inr (ci, xobj h0 σ k ci)) (hj : j < N) (hset : xobj h0 (xU σ k j a) k ci = (xobj h0 σ k ci).set j (.int (xJ a))) (hlen : j < (xobj h0 σ k ci).length) (hl : Cond.fieldLink own index (t j).1 (t j).2.1 (t j).2.2.1 ∈ xTB) (hfin : (t j).2.2.2 = false) (hn : narrow (ty j) (.int (xJ a)) = .int (xJ a)) (hfit : fits (ty j) (.int (xJ a)) = true) (hR : xR a) (hdg : decode cc pc = .ok (.putfield index, 3))
    (kk : ∀ (H1 : Heap) (locs1 : List Loc) (τ : xS), τ = xU σ k j a → xW D g h0 s H1 locs1 τ → W p l e R s m args below meth c H1 locs1 cells slots Q (F0 m (pc + 3) ls rest)) : W p l e R s m args below meth c H locs cells slots Q (F0 m pc ls (.int (xJ a) :: .ref (h0 + k) :: rest)) := by
  have hap := va_apart (own := own) hT hc.1 ty hc.2.2.1 hc.2.2.2 hE.1 hc.2.1
  have h9 := hW.1 k (Or.inl hk)
  rw [hcel σ] at h9
  obtain ⟨r, h1, cell, q1, q2, q3, q4⟩ := h9
  have hr : r = (C, t, N) := Option.some.inj (h1.symm.trans hc.2.1)
  subst hr
  obtain ⟨hS, hfc, kC, hkC, hkind⟩ := hE.1.1 ci _ hc.2.1
  obtain ⟨cf, kf, fi, f, hi, hsl⟩ := hS j hj
  have hlay := hT _ (hc.1 _ (u_in_lay hj))
  unfold u_lay at hlay
  rw [if_neg (by rw [hfin]; decide)] at hlay
  have hst := (u_facts hfc hkC (u_lays hT hc.1 hj) hi).1
  have h6 := u_store hfc hkC hkind hlay hi (hc.2.2.1 j hj) hn hfit
  refine W.putK hx hb (f := f) ⟨hown, hT _ hl, ⟨_, _, _, hi⟩, hst⟩ (by rw [q2]; exact h6) q1 q3 (by rw [hsl]; exact k2_hasslot (q4 j hj)) rfl rfl hdg fun H1 e1 e2 e3 => ?_
  rw [hsl] at e1 ⊢
  refine kk H1 _ _ rfl (xW_put hW hk e2 e3 (fun k2 h => xU_k σ j a h) (xRR_U hW.2.1 hR) ?_)
  rw [hcel, hset]
  exact ⟨_, hc.2.1, t_OB.to (V := updV (vp_V (xobj h0 σ k ci)) j (.int (xJ a))) ⟨_, e1, q2, q3, t_set q4 hap hj _⟩ (fun i _ => vp_updV_set hlen _ i)⟩
theorem x_putN {own C host : String} {t : u_T} {N ci index k j : Nat} {ty : Nat → FieldType} {a : Int} (hx : p.tables.exec = Jvm.exec) (hb : c.code = cc) (hown : s.vm.findClass own = some m.cls) (hT : ∀ w ∈ xTB, w.before args s = true) (hE : xE D g T h0 s) (hW : xW D g h0 s H locs σ) (hc : xCls C t N ci ty) (hk : k < 310) (hcel : ∀ σ : xS, xcel h0 g σ k = .inr (ci, xobj h0 σ k ci)) (hj : j < N) (hset : xobj h0 (xU σ k j a) k ci = (xobj h0 σ k ci).set j (.int (xJ a))) (hlen : j < (xobj h0 σ k ci).length) (hl : Cond.fieldLinkNest own index (t j).1 (t j).2.1 (t j).2.2.1 host ∈ xNL) (hfin : (t j).2.2.2 = false) (hn : narrow (ty j) (.int (xJ a)) = .int (xJ a)) (hfit : fits (ty j) (.int (xJ a)) = true) (hR : xR a) (hdg : decode cc pc = .ok (.putfield index, 3))
    (kk : ∀ (H1 : Heap) (locs1 : List Loc) (τ : xS), τ = xU σ k j a → xW D g h0 s H1 locs1 τ → W p l e R s m args below meth c H1 locs1 cells slots Q (F0 m (pc + 3) ls rest)) : W p l e R s m args below meth c H locs cells slots Q (F0 m pc ls (.int (xJ a) :: .ref (h0 + k) :: rest)) := by
  have hap := va_apart (own := own) hT hc.1 ty hc.2.2.1 hc.2.2.2 hE.1 hc.2.1
  have h9 := hW.1 k (Or.inl hk)
  rw [hcel σ] at h9
  obtain ⟨r, h1, cell, q1, q2, q3, q4⟩ := h9
  have hr : r = (C, t, N) := Option.some.inj (h1.symm.trans hc.2.1)
  subst hr
  obtain ⟨hS, hfc, kC, hkC, hkind⟩ := hE.1.1 ci _ hc.2.1
  obtain ⟨cf, kf, fi, f, hi, hsl⟩ := hS j hj
  have hlay := hT _ (hc.1 _ (u_in_lay hj))
  unfold u_lay at hlay
  rw [if_neg (by rw [hfin]; decide)] at hlay
  have hst := (u_facts hfc hkC (u_lays hT hc.1 hj) hi).1
  have h6 := u_store hfc hkC hkind hlay hi (hc.2.2.1 j hj) hn hfit
  refine va_WputK hx hb (f := f) hown (xE_N hE hl rfl) hi hst (by rw [q2]; exact h6) q1 q3 (by rw [hsl]; exact k2_hasslot (q4 j hj)) rfl rfl hdg fun H1 e1 e2 e3 => ?_
  rw [hsl] at e1 ⊢
  refine kk H1 _ _ rfl (xW_put hW hk e2 e3 (fun k2 h => xU_k σ j a h) (xRR_U hW.2.1 hR) ?_)
  rw [hcel, hset]
  exact ⟨_, hc.2.1, t_OB.to (V := updV (vp_V (xobj h0 σ k ci)) j (.int (xJ a))) ⟨_, e1, q2, q3, t_set q4 hap hj _⟩ (fun i _ => vp_updV_set hlen _ i)⟩
/-- arrays of numbers: read -/
theorem x_iald {k n : Nat} {a : Int} (hx : p.tables.exec = Jvm.exec) (hb : c.code = cc) (hE : xE D g T h0 s) (hW : xW D g h0 s H locs σ) (hk : xV σ k) (hcel : xcel h0 g σ k = .inl (g.1, n, .inl (fun j => xJ (σ k j)))) (hi : 0 ≤ a ∧ a < (n : Int)) (hnn : n ≤ 2147483647) (hdg : decode cc pc = .ok (.iaload, 1))
    (kk : W p l e R s m args below meth c H locs cells slots Q (F0 m (pc + 1) ls (.int (xJ (σ k a)) :: rest))) : W p l e R s m args below meth c H locs cells slots Q (F0 m pc ls (.int (xJ a) :: .ref (h0 + k) :: rest)) := by
  obtain ⟨h1, h2⟩ := hi
  have hR : xR a := by omega
  have h9 := hW.1 k hk
  rw [hcel] at h9
  refine va_iald (D := D) (cl := vwCl) (ws := [(h0 + k, .inl (g.1, n, .inl (fun j => xJ (σ k j))))]) hx hb hE.1 (fun i q hq => by
    match i, hq with
    | 0, hq => cases hq; exact h9) 0 0 rfl rfl (xJ_in hR h1 h2) hdg ?_
  rw [xJ_cl hR, Int.toNat_of_nonneg h1]
  exact kk
theorem x_zald {k n : Nat} {a : Int} (hx : p.tables.exec = Jvm.exec) (hb : c.code = cc) (hE : xE D g T h0 s) (hW : xW D g h0 s H locs σ) (hk : xV σ k) (hcel : xcel h0 g σ k = .inl (g.2.1, n, .inl (fun j => xJ (σ k j)))) (hi : 0 ≤ a ∧ a < (n : Int)) (hnn : n ≤ 2147483647) (hdg : decode cc pc = .ok (.baload, 1))
    (kk : W p l e R s m args below meth c H locs cells slots Q (F0 m (pc + 1) ls (.int (xJ (σ k a)) :: rest))) : W p l e R s m args below meth c H locs cells slots Q (F0 m pc ls (.int (xJ a) :: .ref (h0 + k) :: rest)) := by
  obtain ⟨h1, h2⟩ := hi
  have hR : xR a := by omega
  have h9 := hW.1 k hk
  rw [hcel] at h9
  refine va_zald (D := D) (cl := vwCl) (ws := [(h0 + k, .inl (g.2.1, n, .inl (fun j => xJ (σ k j))))]) hx hb hE.1 (fun i q hq => by
    match i, hq with
    | 0, hq => cases hq; exact h9) 0 1 rfl rfl (xJ_in hR h1 h2) hdg ?_
  rw [xJ_cl hR, Int.toNat_of_nonneg h1]
  exact kk
theorem x_bald {k n : Nat} {a : Int} (hx : p.tables.exec = Jvm.exec) (hb : c.code = cc) (hE : xE D g T h0 s) (hW : xW D g h0 s H locs σ) (hk : xV σ k) (hcel : xcel h0 g σ k = .inl (g.2.2.1, n, .inl (fun j => xJ (σ k j)))) (hi : 0 ≤ a ∧ a < (n : Int)) (hnn : n ≤ 2147483647) (hdg : decode cc pc = .ok (.baload, 1))
    (kk : W p l e R s m args below meth c H locs cells slots Q (F0 m (pc + 1) ls (.int (xJ (σ k a)) :: rest))) : W p l e R s m args below meth c H locs cells slots Q (F0 m pc ls (.int (xJ a) :: .ref (h0 + k) :: rest)) := by
  obtain ⟨h1, h2⟩ := hi
  have hR : xR a := by omega
  have h9 := hW.1 k hk
  rw [hcel] at h9
  refine va_bald (D := D) (cl := vwCl) (ws := [(h0 + k, .inl (g.2.2.1, n, .inl (fun j => xJ (σ k j))))]) hx hb hE.1 (fun i q hq => by
    match i, hq with
    | 0, hq => cases hq; exact h9) 0 2 rfl rfl (xJ_in hR h1 h2) hdg ?_
  rw [xJ_cl hR, Int.toNat_of_nonneg h1]
  exact kk
theorem x_alen {k n : Nat} {cA : ClassId} {x : vp_A} {t0 : Nat} {ty : FieldType} (hx : p.tables.exec = Jvm.exec) (hb : c.code = cc) (hE : xE D g T h0 s) (hW : xW D g h0 s H locs σ) (hk : xV σ k) (hcel : xcel h0 g σ k = .inl (cA, x)) (ht : (xtys g)[t0]? = some (cA, ty)) (hn : x.1 = n) (hdg : decode cc pc = .ok (.arraylength, 1))
    (kk : W p l e R s m args below meth c H locs cells slots Q (F0 m (pc + 1) ls (.int (xJ (n : Int)) :: rest))) : W p l e R s m args below meth c H locs cells slots Q (F0 m pc ls (.ref (h0 + k) :: rest)) := by
  have h9 := hW.1 k hk
  rw [hcel] at h9
  exact va_alen (D := D) (cl := vwCl) (ws := [(h0 + k, .inl (cA, x))]) hx hb hE.1 (fun i q hq => by
    match i, hq with
    | 0, hq => cases hq; exact h9) 0 t0 rfl ht (by rw [hn, xJ_nat]; rfl) hdg kk
/-- .. and write -/
theorem x_iast {k n : Nat} {a v : Int} (hx : p.tables.exec = Jvm.exec) (hb : c.code = cc) (hE : xE D g T h0 s) (hW : xW D g h0 s H locs σ) (hk : k < 310) (hcel : ∀ σ : xS, xcel h0 g σ k = .inl (g.1, n, .inl (fun j => xJ (σ k j)))) (hi : 0 ≤ a ∧ a < (n : Int)) (hnn : n ≤ 2147483647) (hv : xR v) (hdg : decode cc pc = .ok (.iastore, 1))
    (kk : ∀ (H1 : Heap) (locs1 : List Loc) (τ : xS), τ = xU σ k a v → xW D g h0 s H1 locs1 τ → W p l e R s m args below meth c H1 locs1 cells slots Q (F0 m (pc + 1) ls rest)) : W p l e R s m args below meth c H locs cells slots Q (F0 m pc ls (.int (xJ v) :: .int (xJ a) :: .ref (h0 + k) :: rest)) := by
  obtain ⟨h1, h2⟩ := hi
  have hR : xR a := by omega
  have h9 := hW.1 k (Or.inl hk)
  rw [hcel σ] at h9
  have h9 : H[h0 + k]? = some (arrV g.1 n (fun j => .int (xJ (σ k j)))) := h9
  refine W.iast hx hb h9 ((hE.1.2 0 _ rfl).1 n _) (fun q => by cases q) (by rw [arrV_size]; exact xJ_nin hR h1 h2) rfl rfl hdg fun H1 e1 e2 e3 => ?_
  refine kk H1 _ _ rfl (xW_put hW hk e2 e3 (fun k2 h => xU_k σ a v h) (xRR_U hW.2.1 hv) ?_)
  rw [hcel]
  show H1[h0 + k]? = some (arrV g.1 n (fun j => .int (xJ (xU σ k a v k j))))
  rw [e1, arrV_store, xJ_cl hR]
  congr 2
  funext q
  by_cases hq : q = a.toNat
  · subst hq
    simp [updV, Int.toNat_of_nonneg h1, xU_s]
  · have : (q : Int) ≠ a := by omega
    simp [updV, hq, xU_j σ v this]
theorem x_zast {k n : Nat} {a v : Int} (hx : p.tables.exec = Jvm.exec) (hb : c.code = cc) (hE : xE D g T h0 s) (hW : xW D g h0 s H locs σ) (hk : k < 310) (hcel : ∀ σ : xS, xcel h0 g σ k = .inl (g.2.1, n, .inl (fun j => xJ (σ k j)))) (hi : 0 ≤ a ∧ a < (n : Int)) (hnn : n ≤ 2147483647) (hv : v = 0 ∨ v = 1) (hdg : decode cc pc = .ok (.bastore, 1))
    (kk : ∀ (H1 : Heap) (locs1 : List Loc) (τ : xS), τ = xU σ k a v → xW D g h0 s H1 locs1 τ → W p l e R s m args below meth c H1 locs1 cells slots Q (F0 m (pc + 1) ls rest)) : W p l e R s m args below meth c H locs cells slots Q (F0 m pc ls (.int (xJ v) :: .int (xJ a) :: .ref (h0 + k) :: rest)) := by
  obtain ⟨h1, h2⟩ := hi
  have hR : xR a := by omega
  have h9 := hW.1 k (Or.inl hk)
  rw [hcel σ] at h9
  have h9 : H[h0 + k]? = some (arrV g.2.1 n (fun j => .int (xJ (σ k j)))) := h9
  have hnar : narrow .boolean (.int (xJ v)) = .int (xJ v) := by rcases hv with rfl | rfl <;> rfl
  refine W.zast hx hb h9 ((hE.1.2 1 _ rfl).1 n _) (fun q => by cases q) (by rw [arrV_size]; exact xJ_nin hR h1 h2) rfl rfl hdg fun H1 e1 e2 e3 => ?_
  rw [hnar] at e1
  refine kk H1 _ _ rfl (xW_put hW hk e2 e3 (fun k2 h => xU_k σ a v h) (xRR_U hW.2.1 (by omega)) ?_)
  rw [hcel]
  show H1[h0 + k]? = some (arrV g.2.1 n (fun j => .int (xJ (xU σ k a v k j))))
  rw [e1, arrV_store, xJ_cl hR]
  congr 2
  funext q
  by_cases hq : q = a.toNat
  · subst hq
    simp [updV, Int.toNat_of_nonneg h1, xU_s]
  · have : (q : Int) ≠ a := by omega
    simp [updV, hq, xU_j σ v this]
theorem x_bast {k n : Nat} {a v w : Int} (hx : p.tables.exec = Jvm.exec) (hb : c.code = cc) (hE : xE D g T h0 s) (hW : xW D g h0 s H locs σ) (hk : k < 310) (hcel : ∀ σ : xS, xcel h0 g σ k = .inl (g.2.2.1, n, .inl (fun j => xJ (σ k j)))) (hi : 0 ≤ a ∧ a < (n : Int)) (hnn : n ≤ 2147483647) (hv : narrow .byte (.int (xJ v)) = .int (xJ w)) (hw : xR w) (hdg : decode cc pc = .ok (.bastore, 1))
    (kk : ∀ (H1 : Heap) (locs1 : List Loc) (τ : xS), τ = xU σ k a w → xW D g h0 s H1 locs1 τ → W p l e R s m args below meth c H1 locs1 cells slots Q (F0 m (pc + 1) ls rest)) : W p l e R s m args below meth c H locs cells slots Q (F0 m pc ls (.int (xJ v) :: .int (xJ a) :: .ref (h0 + k) :: rest)) := by
  obtain ⟨h1, h2⟩ := hi
  have hR : xR a := by omega
  have h9 := hW.1 k (Or.inl hk)
  rw [hcel σ] at h9
  have h9 : H[h0 + k]? = some (arrV g.2.2.1 n (fun j => .int (xJ (σ k j)))) := h9
  refine W.bast hx hb h9 ((hE.1.2 2 _ rfl).1 n _) (fun q => by cases q) (by rw [arrV_size]; exact xJ_nin hR h1 h2) rfl rfl hdg fun H1 e1 e2 e3 => ?_
  rw [hv] at e1
  refine kk H1 _ _ rfl (xW_put hW hk e2 e3 (fun k2 h => xU_k σ a w h) (xRR_U hW.2.1 hw) ?_)
  rw [hcel]
  show H1[h0 + k]? = some (arrV g.2.2.1 n (fun j => .int (xJ (xU σ k a w k j))))
  rw [e1, arrV_store, xJ_cl hR]
  congr 2
  funext q
  by_cases hq : q = a.toNat
  · subst hq
    simp [updV, Int.toNat_of_nonneg h1, xU_s]
  · have : (q : Int) ≠ a := by omega
    simp [updV, hq, xU_j σ w this]
/-- frames -/
def xFr (M : Nat → Prop) (σ τ : xS) : Prop := ∀ k, ¬ M k → τ k = σ k
theorem xFr.rf {M : Nat → Prop} : xFr M σ σ := fun _ _ => rfl
theorem xFr.put {M : Nat → Prop} {s1 s2 : xS} {k : Nat} {j v : Int} (h : xFr M σ s1) (e : s2 = xU s1 k j v) (hk : M k) : xFr M σ s2 := fun k2 h2 => by
  rw [e, xU_k s1 j v (fun q => h2 (by rw [q]; exact hk))]
  exact h k2 h2
theorem xFr.call {M M2 : Nat → Prop} {s1 s2 : xS} (h : xFr M σ s1) (h2 : xFr M2 s1 s2) (hs : ∀ k, M2 k → M k) : xFr M σ s2 := fun k hk => (h2 k (fun q => hk (hs k q))).trans (h k hk)
/-- a number that is read -/
theorem x_rd {k : Nat} {j : Int} (hW : xW D g h0 s H locs σ) (kk : ∀ v : Int, v = σ k j → xR v → W p l e R s m args below meth c H locs cells slots Q (F0 m pc ls (.int (xJ v) :: rest))) : W p l e R s m args below meth c H locs cells slots Q (F0 m pc ls (.int (xJ (σ k j)) :: rest)) := kk _ rfl (hW.2.1 k j)
theorem x_nm {a : Int} (kk : ∀ v : Int, v = a → W p l e R s m args below meth c H locs cells slots Q (F0 m pc ls (.int (xJ v) :: rest))) : W p l e R s m args below meth c H locs cells slots Q (F0 m pc ls (.int (xJ a) :: rest)) := kk _ rfl
/-- switches -/
theorem x_tabIn {dflt lo hi v : Int} {offs : Array Int} {len : Nat} {a off : Int} {tgt : Nat} (hx : p.tables.exec = Jvm.exec) (hb : c.code = cc) (ha : xR a) (hv : a = v) (hdg : decode cc pc = .ok (.tableswitch dflt lo hi offs, len)) (h1 : lo ≤ v ∧ v ≤ hi) (ho : offs[(v - lo).toNat]? = some off) (ht : (pc : Int) + off = (tgt : Int)) (k : W p l e R s m args below meth c H locs cells slots Q (F0 m tgt ls rest)) : W p l e R s m args below meth c H locs cells slots Q (F0 m pc ls (.int (xJ a) :: rest)) := by
  subst hv
  exact lv_tableIn hx hb hdg (by rw [xJ_toInt ha]; omega) (by rw [xJ_toInt ha]; omega) (by rw [xJ_toInt ha]; exact ho) ht k
theorem x_tabOut {dflt lo hi : Int} {offs : Array Int} {len : Nat} {a : Int} {tgt : Nat} (hx : p.tables.exec = Jvm.exec) (hb : c.code = cc) (ha : xR a) (hdg : decode cc pc = .ok (.tableswitch dflt lo hi offs, len)) (h : a < lo ∨ hi < a) (ht : (pc : Int) + dflt = (tgt : Int)) (k : W p l e R s m args below meth c H locs cells slots Q (F0 m tgt ls rest)) : W p l e R s m args below meth c H locs cells slots Q (F0 m pc ls (.int (xJ a) :: rest)) := lv_tableOut hx hb hdg (by rw [xJ_toInt ha]; exact h) ht k
theorem x_look {dflt : Int} {ps : Array (Int × Int)} {len : Nat} {a off : Int} {tgt : Nat} (hx : p.tables.exec = Jvm.exec) (hb : c.code = cc) (ha : xR a) (hdg : decode cc pc = .ok (.lookupswitch dflt ps, len)) (hp : (ps.toList.zip (ps.toList.drop 1)).all (fun (a, next) => a.1 < next.1) = true) (ho : Op.lookupswitch.offset ps.toList dflt a = off) (ht : (pc : Int) + off = (tgt : Int)) (k : W p l e R s m args below meth c H locs cells slots Q (F0 m tgt ls rest)) : W p l e R s m args below meth c H locs cells slots Q (F0 m pc ls (.int (xJ a) :: rest)) := lv_lookup hx hb hdg hp (by rw [xJ_toInt ha]; exact ho) ht k
/-- static tables -/
theorem x_wx (hx : p.tables.exec = Jvm.exec) (hb : c.code = cc) {a : Int} (hE : xE D g T h0 s) (hW : xW D g h0 s H locs σ) (hi : 0 ≤ a ∧ a < 8) (hdg : decode cc pc = .ok (.iaload, 1)) (kk : W p l e R s m args below meth c H locs cells slots Q (F0 m (pc + 1) ls (.int (xJ (xwx a.toNat)) :: rest))) : W p l e R s m args below meth c H locs cells slots Q (F0 m pc ls (.int (xJ a) :: .ref T.1 :: rest)) :=
  va_ti hx hb hE.2.2.1.2 hW.2.2 (xJ_in (by omega) hi.1 hi.2) (by rw [xJ_cl (by omega)]) hdg kk
theorem x_wy (hx : p.tables.exec = Jvm.exec) (hb : c.code = cc) {a : Int} (hE : xE D g T h0 s) (hW : xW D g h0 s H locs σ) (hi : 0 ≤ a ∧ a < 8) (hdg : decode cc pc = .ok (.iaload, 1)) (kk : W p l e R s m args below meth c H locs cells slots Q (F0 m (pc + 1) ls (.int (xJ (xwy a.toNat)) :: rest))) : W p l e R s m args below meth c H locs cells slots Q (F0 m pc ls (.int (xJ a) :: .ref T.2.1 :: rest)) :=
  va_ti hx hb hE.2.2.2.1.2 hW.2.2 (xJ_in (by omega) hi.1 hi.2) (by rw [xJ_cl (by omega)]) hdg kk
theorem x_lt (hx : p.tables.exec = Jvm.exec) (hb : c.code = cc) {a : Int} (hE : xE D g T h0 s) (hW : xW D g h0 s H locs σ) (hi : 0 ≤ a ∧ a < 7) (hdg : decode cc pc = .ok (.iaload, 1)) (kk : W p l e R s m args below meth c H locs cells slots Q (F0 m (pc + 1) ls (.int (xJ (xlt a.toNat)) :: rest))) : W p l e R s m args below meth c H locs cells slots Q (F0 m pc ls (.int (xJ a) :: .ref T.2.2 :: rest)) :=
  va_ti hx hb hE.2.2.2.2.2 hW.2.2 (xJ_in (by omega) hi.1 hi.2) (by rw [xJ_cl (by omega)]) hdg kk
/-- calls -/
def xCF (y : MethodName) (bytes : ByteArray) (maxL : Nat) (ret : Option FieldType) (n : Nat) : Prop := Cond.code y bytes maxL ret ∈ xTB ∧ Cond.initialized y.cls ∈ xTB ∧ (y.cls ≠ "java/lang/invoke/MethodHandle" ∧ y.cls ≠ "java/lang/invoke/VarHandle" ∧ (parseMethodDescriptor y.desc).map (fun d => d.parameters.length) = some n)
def xRm (rm R : Room) (maxL mc ms cells slots : Nat) : Prop := rm.cells = mc ∧ rm.slots = ms ∧ (rm.frames + 1 ≤ R.frames ∧ 8 + (maxL + 11) + rm.locals ≤ R.locals) ∧ (cells + mc ≤ R.cells ∧ slots + ms ≤ R.slots)
variable {own C : String} {index n nL maxL mc ms k ci : Nat} {y : MethodName} {bytes : ByteArray} {ret : Option FieldType} {rm : Room} {As : List Value} {Qc : Array Value → State → Outcome → State → Prop} {free : Addr → Prop}
theorem x_preV {t9 : u_T} {N9 : Nat} (hE : xE D g T h0 s) (hW : xW D g h0 s H locs σ) (hk : xV σ k) (hcel : xcel h0 g σ k = .inr (ci, xobj h0 σ k ci)) (hci : vwCl[ci]? = some (C, t9, N9)) : PreV s H C (h0 + k) (xP (.ref (h0 + k) :: As) D g T h0 σ) As := by
  refine ⟨xP_blind, ?_, fun U hU hWm => ⟨rfl, xE_move hE hW.2.2 hWm hU, by rw [hU]; exact hW.1⟩⟩
  have h9 := hW.1 k hk
  rw [hcel] at h9
  obtain ⟨q', h1, cell, g1, g2, g3, -⟩ := h9
  exact ⟨cell, g1, by rw [g3]; rfl, by rw [g2]; exact (hE.1.1 ci _ hci).2.1⟩
theorem x_preS (hE : xE D g T h0 s) (hW : xW D g h0 s H locs σ) : PreS s H (xP As D g T h0 σ) As := ⟨xP_blind, fun U hU hWm => ⟨rfl, xE_move hE hW.2.2 hWm hU, by rw [hU]; exact hW.1⟩⟩
theorem x_runV {t9 : u_T} {N9 : Nat} (hx : p.tables.exec = Jvm.exec) (hb : c.code = cc) (hml : c.maxLocals = nL) (hown : s.vm.findClass own = some m.cls) (hT : ∀ w ∈ xTB, w.before args s = true) (hE : xE D g T h0 s) (hW : xW D g h0 s H locs σ) (hls : ls.size = nL) (hk : xV σ k) (hcel : xcel h0 g σ k = .inr (ci, xobj h0 σ k ci)) (hci : vwCl[ci]? = some (y.cls, t9, N9)) (cf : xCF y bytes maxL ret n) (hin : Cond.instanceMethod y ∈ xTB) (hsel : Cond.selects y.cls y y ∈ xTB) (hl : Cond.methodLink own index y ∈ xTB) (hM : Met l y (xws y bytes maxL ret) rm (xP (.ref (h0 + k) :: As) D g T h0 σ) Qc mc ms free) (hrm : xRm rm R maxL mc ms cells slots) (hn : As.length = n) (hst : st0 = As.reverse ++ .ref (h0 + k) :: rest) (hrest : (rest.map fun v => v.category).sum ≤ 8) (hdg : decode cc pc = .ok (.invokevirtual index, 3)) :
    va_Run p l e R s m args below meth c H locs cells slots mc ms (F0 m pc ls st0) rest (Qc (Value.ref (h0 + k) :: As).toArray) free :=
  va_runV (Ts := xTB) ⟨hx, hb, hml, hown, hT⟩ hM ⟨callB_of n hT (xws_good (fun _ h => h) cf.1) rfl hrm.1 hrm.2.1 (hT _ cf.2.1) (hT _ hl) cf.2.2 hrm.2.2.1, hT _ hin, hT _ hsel⟩ (x_preV hE hW hk hcel hci) rfl hn hls hst (lv_room hrest) hdg hrm.2.2.2
theorem x_runVN {host : String} {t9 : u_T} {N9 : Nat} (hx : p.tables.exec = Jvm.exec) (hb : c.code = cc) (hml : c.maxLocals = nL) (hown : s.vm.findClass own = some m.cls) (hT : ∀ w ∈ xTB, w.before args s = true) (hE : xE D g T h0 s) (hW : xW D g h0 s H locs σ) (hls : ls.size = nL) (hk : xV σ k) (hcel : xcel h0 g σ k = .inr (ci, xobj h0 σ k ci)) (hci : vwCl[ci]? = some (y.cls, t9, N9)) (cf : xCF y bytes maxL ret n) (hin : Cond.instanceMethod y ∈ xTB) (hsel : Cond.selects y.cls y y ∈ xTB) (hl : Cond.methodLinkNest own index y host ∈ xNL) (hM : Met l y (xws y bytes maxL ret) rm (xP (.ref (h0 + k) :: As) D g T h0 σ) Qc mc ms free) (hrm : xRm rm R maxL mc ms cells slots) (hn : As.length = n) (hst : st0 = As.reverse ++ .ref (h0 + k) :: rest) (hrest : (rest.map fun v => v.category).sum ≤ 8) (hdg : decode cc pc = .ok (.invokevirtual index, 3)) :
    va_Run p l e R s m args below meth c H locs cells slots mc ms (F0 m pc ls st0) rest (Qc (Value.ref (h0 + k) :: As).toArray) free :=
  va_runVN (Ts := xTB) ⟨hx, hb, hml, hown, hT⟩ hM ⟨va_cnB n hT (xws_good (fun _ h => h) cf.1) rfl hrm.1 hrm.2.1 (hE.2.1 _ hl) (hT _ cf.2.1) cf.2.2 hrm.2.2.1, hT _ hin, hT _ hsel⟩ (x_preV hE hW hk hcel hci) rfl hn hls hst (lv_room hrest) hdg hrm.2.2.2
theorem x_runS (hx : p.tables.exec = Jvm.exec) (hb : c.code = cc) (hml : c.maxLocals = nL) (hown : s.vm.findClass own = some m.cls) (hT : ∀ w ∈ xTB, w.before args s = true) (hE : xE D g T h0 s) (hW : xW D g h0 s H locs σ) (hls : ls.size = nL) (cf : xCF y bytes maxL ret n) (hst1 : Cond.static y ∈ xTB) (hl : Cond.methodLink own index y ∈ xTB) (hM : Met l y (xws y bytes maxL ret) rm (xP As D g T h0 σ) Qc mc ms free) (hrm : xRm rm R maxL mc ms cells slots) (hn : As.length = n) (hst : st0 = As.reverse ++ rest) (hrest : (rest.map fun v => v.category).sum ≤ 8) (hdg : decode cc pc = .ok (.invokestatic index, 3)) :
    va_Run p l e R s m args below meth c H locs cells slots mc ms (F0 m pc ls st0) rest (Qc As.toArray) free :=
  va_runS (Ts := xTB) ⟨hx, hb, hml, hown, hT⟩ hM ⟨callB_of n hT (xws_good (fun _ h => h) cf.1) rfl hrm.1 hrm.2.1 (hT _ cf.2.1) (hT _ hl) cf.2.2 hrm.2.2.1, hT _ hst1⟩ (x_preS hE hW) rfl hn hls hst (lv_room hrest) hdg hrm.2.2.2
theorem x_runSN {host : String} (hx : p.tables.exec = Jvm.exec) (hb : c.code = cc) (hml : c.maxLocals = nL) (hown : s.vm.findClass own = some m.cls) (hT : ∀ w ∈ xTB, w.before args s = true) (hE : xE D g T h0 s) (hW : xW D g h0 s H locs σ) (hls : ls.size = nL) (cf : xCF y bytes maxL ret n) (hst1 : Cond.static y ∈ xTB) (hl : Cond.methodLinkNest own index y host ∈ xNL) (hM : Met l y (xws y bytes maxL ret) rm (xP As D g T h0 σ) Qc mc ms free) (hrm : xRm rm R maxL mc ms cells slots) (hn : As.length = n) (hst : st0 = As.reverse ++ rest) (hrest : (rest.map fun v => v.category).sum ≤ 8) (hdg : decode cc pc = .ok (.invokestatic index, 3)) :
    va_Run p l e R s m args below meth c H locs cells slots mc ms (F0 m pc ls st0) rest (Qc As.toArray) free :=
  va_runSN (Ts := xTB) ⟨hx, hb, hml, hown, hT⟩ hM ⟨va_cnB n hT (xws_good (fun _ h => h) cf.1) rfl hrm.1 hrm.2.1 (hE.2.1 _ hl) (hT _ cf.2.1) cf.2.2 hrm.2.2.1, hT _ hst1, trivial⟩ (x_preS hE hW) rfl hn hls hst (lv_room hrest) hdg hrm.2.2.2
variable {a0 : Array Value}
theorem xS_go {st₀ t T' : State} {L : List Loc} (hW : xW D g h0 s H locs σ) (h9 : st₀.heap = H) (hL : ∀ q ∈ L, xA h0 q.base) (e1 : T'.heap = t.heap) (hF : va_F (xA h0) st₀ t) : va_S (xA h0) s.heap T'.heap (locs ++ L) := by
  obtain ⟨hz, hk⟩ := hF
  rw [h9] at hz hk
  have hS := hW.2.2
  refine ⟨Nat.le_trans hS.1 (by rw [e1]; exact hz), fun q h1 h2 => by rw [e1, hk q (Nat.lt_of_lt_of_le h1 hS.1) h2]; exact hS.2.1 q h1 h2, fun q hq => ?_⟩
  rcases List.mem_append.mp hq with h | h
  · exact hS.2.2 q h
  · exact hL q h
theorem x_goi {post : Int → xS → Prop} (hr : va_Run p l e R s m args below meth c H locs cells slots mc ms (F0 m pc ls st0) rest (xQi D g h0 post a0) (xA h0)) (hW : xW D g h0 s H locs σ)
    (kk : ∀ (r : Int) (τ : xS) (H1 : Heap) (locs1 : List Loc), xR r → post r τ → xW D g h0 s H1 locs1 τ → W p l e R s m args below meth c H1 locs1 (cells + mc) (slots + ms) Q (F0 m (pc + 3) ls (.int (xJ r) :: rest))) : W p l e R s m args below meth c H locs cells slots Q (F0 m pc ls st0) := by
  intro T hT X
  obtain ⟨v, st₀, t, T', L, h9, X', hL, e1, e2, ⟨⟨r, τ, hv, hR, hp, hRR, hb⟩, hF⟩, st⟩ := hr T hT X
  cases hv
  obtain ⟨t2, a1, b1⟩ := kk r τ T'.heap (locs ++ L) hR hp ⟨by rw [e1]; exact hb, hRR, xS_go hW h9 hL e1 hF⟩ T' rfl X'
  exact ⟨t2, st t2 a1, b1⟩
theorem x_gov {post : xS → Prop} (hr : va_Run p l e R s m args below meth c H locs cells slots mc ms (F0 m pc ls st0) rest (xQv D g h0 post a0) (xA h0)) (hW : xW D g h0 s H locs σ)
    (kk : ∀ (τ : xS) (H1 : Heap) (locs1 : List Loc), post τ → xW D g h0 s H1 locs1 τ → W p l e R s m args below meth c H1 locs1 (cells + mc) (slots + ms) Q (F0 m (pc + 3) ls rest)) : W p l e R s m args below meth c H locs cells slots Q (F0 m pc ls st0) := by
  intro T hT X
  obtain ⟨v, st₀, t, T', L, h9, X', hL, e1, e2, ⟨⟨τ, hv, hp, hRR, hb⟩, hF⟩, st⟩ := hr T hT X
  cases hv
  obtain ⟨t2, a1, b1⟩ := kk τ T'.heap (locs ++ L) hp ⟨by rw [e1]; exact hb, hRR, xS_go hW h9 hL e1 hF⟩ T' rfl X'
  exact ⟨t2, st t2 a1, b1⟩
theorem x_gor {post : Nat → xS → Prop} (hr : va_Run p l e R s m args below meth c H locs cells slots mc ms (F0 m pc ls st0) rest (xQr D g h0 post a0) (xA h0)) (hW : xW D g h0 s H locs σ)
    (kk : ∀ (r : Nat) (τ : xS) (H1 : Heap) (locs1 : List Loc), post r τ → xW D g h0 s H1 locs1 τ → W p l e R s m args below meth c H1 locs1 (cells + mc) (slots + ms) Q (F0 m (pc + 3) ls (.ref (h0 + r) :: rest))) : W p l e R s m args below meth c H locs cells slots Q (F0 m pc ls st0) := by
  intro T hT X
  obtain ⟨v, st₀, t, T', L, h9, X', hL, e1, e2, ⟨⟨r, τ, hv, hp, hRR, hb⟩, hF⟩, st⟩ := hr T hT X
  cases hv
  obtain ⟨t2, a1, b1⟩ := kk r τ T'.heap (locs ++ L) hp ⟨by rw [e1]; exact hb, hRR, xS_go hW h9 hL e1 hF⟩ T' rfl X'
  exact ⟨t2, st t2 a1, b1⟩
theorem x_mmax (hx : p.tables.exec = Jvm.exec) (hb : c.code = cc) (hml : c.maxLocals = nL) (hls : ls.size = nL) (hown : s.vm.findClass own = some m.cls) (hT : ∀ w ∈ xTB, w.before args s = true) (hl : Cond.methodLink own index Lib.Math.max.name ∈ xTB) (h2 : Cond.static Lib.Math.max.name ∈ xTB) (h3 : Cond.initialized "java/lang/Math" ∈ xTB) (h4 : Cond.code Lib.Math.max.name Lib.Math.max.code 2 (some .int) ∈ xTB) (hrm : 1 ≤ R.frames ∧ (rest.map fun v => v.category).sum + 13 ≤ R.locals ∧ cells ≤ R.cells ∧ slots ≤ R.slots) {a b : Int} (ha : xR a) (hb2 : xR b) (hdg : decode cc pc = .ok (.invokestatic index, 3))
    (kk : W p l e R s m args below meth c H locs cells slots Q (F0 m (pc + 3) ls (.int (xJ (if a < b then b else a)) :: rest))) : W p l e R s m args below meth c H locs cells slots Q (F0 m pc ls (.int (xJ b) :: .int (xJ a) :: rest)) :=
  va_mmax hx hb (hml.trans hls.symm) hown (hT _ hl) (hT _ h2) (hT _ h3) (hT _ h4) hrm.1 hrm.2.1 hrm.2.2.1 hrm.2.2.2 hdg (by
    have e : (if xJ a < xJ b then xJ b else xJ a) = xJ (if a < b then b else a) := by
      by_cases h : a < b
      · rw [if_pos h, if_pos ((xJ_lt ha hb2).mpr h)]
      · rw [if_neg h, if_neg (fun q => h ((xJ_lt ha hb2).mp q))]
    rw [e]; exact kk)
end X2
section X3
variable (h0 : Nat) (g : xG)
theorem so_0 (σ : xS) : xcel h0 g σ 0 = .inr (10, xobj h0 σ 0 10) := rfl
theorem so_1 (σ : xS) : xcel h0 g σ 1 = .inr (8, xobj h0 σ 1 8) := rfl
theorem sa_2 (σ : xS) : xcel h0 g σ 2 = .inl (g.1, 260, .inl (fun j => xJ (σ 2 j))) := rfl
theorem so_3 (σ : xS) : xcel h0 g σ 3 = .inr (6, xobj h0 σ 3 6) := rfl
theorem sa_4 (σ : xS) : xcel h0 g σ 4 = .inl (g.1, 100, .inl (fun j => xJ (σ 4 j))) := rfl
theorem sa_5 (σ : xS) : xcel h0 g σ 5 = .inl (g.1, 100, .inl (fun j => xJ (σ 5 j))) := rfl
theorem sg_6 (σ : xS) : xcel h0 g σ 6 = .inl (g.2.2.2.1, 100, .inr (.inr (.inr (.inr (fun j => some (h0 + xrow σ 6 j)))))) := rfl
theorem sa_7 (σ : xS) : xcel h0 g σ 7 = .inl (g.1, 100, .inl (fun j => xJ (σ 7 j))) := rfl
theorem sa_8 (σ : xS) : xcel h0 g σ 8 = .inl (g.1, 100, .inl (fun j => xJ (σ 8 j))) := rfl
theorem sa_9 (σ : xS) : xcel h0 g σ 9 = .inl (g.1, 100, .inl (fun j => xJ (σ 9 j))) := rfl
theorem sa_10 (σ : xS) : xcel h0 g σ 10 = .inl (g.1, 100, .inl (fun j => xJ (σ 10 j))) := rfl
theorem sa_11 (σ : xS) : xcel h0 g σ 11 = .inl (g.1, 100, .inl (fun j => xJ (σ 11 j))) := rfl
theorem sa_12 (σ : xS) : xcel h0 g σ 12 = .inl (g.1, 100, .inl (fun j => xJ (σ 12 j))) := rfl
theorem sa_13 (σ : xS) : xcel h0 g σ 13 = .inl (g.1, 100, .inl (fun j => xJ (σ 13 j))) := rfl
theorem sa_14 (σ : xS) : xcel h0 g σ 14 = .inl (g.1, 100, .inl (fun j => xJ (σ 14 j))) := rfl
theorem sa_15 (σ : xS) : xcel h0 g σ 15 = .inl (g.1, 100, .inl (fun j => xJ (σ 15 j))) := rfl
theorem sa_16 (σ : xS) : xcel h0 g σ 16 = .inl (g.1, 100, .inl (fun j => xJ (σ 16 j))) := rfl
theorem sa_17 (σ : xS) : xcel h0 g σ 17 = .inl (g.1, 100, .inl (fun j => xJ (σ 17 j))) := rfl
theorem sa_18 (σ : xS) : xcel h0 g σ 18 = .inl (g.1, 100, .inl (fun j => xJ (σ 18 j))) := rfl
theorem sa_19 (σ : xS) : xcel h0 g σ 19 = .inl (g.1, 100, .inl (fun j => xJ (σ 19 j))) := rfl
theorem sa_20 (σ : xS) : xcel h0 g σ 20 = .inl (g.1, 100, .inl (fun j => xJ (σ 20 j))) := rfl
theorem sa_21 (σ : xS) : xcel h0 g σ 21 = .inl (g.1, 100, .inl (fun j => xJ (σ 21 j))) := rfl
theorem sa_22 (σ : xS) : xcel h0 g σ 22 = .inl (g.1, 100, .inl (fun j => xJ (σ 22 j))) := rfl
theorem sa_23 (σ : xS) : xcel h0 g σ 23 = .inl (g.1, 100, .inl (fun j => xJ (σ 23 j))) := rfl
theorem sa_24 (σ : xS) : xcel h0 g σ 24 = .inl (g.1, 100, .inl (fun j => xJ (σ 24 j))) := rfl
theorem sa_25 (σ : xS) : xcel h0 g σ 25 = .inl (g.1, 100, .inl (fun j => xJ (σ 25 j))) := rfl
theorem sa_26 (σ : xS) : xcel h0 g σ 26 = .inl (g.1, 100, .inl (fun j => xJ (σ 26 j))) := rfl
theorem sa_27 (σ : xS) : xcel h0 g σ 27 = .inl (g.1, 100, .inl (fun j => xJ (σ 27 j))) := rfl
theorem sa_28 (σ : xS) : xcel h0 g σ 28 = .inl (g.1, 100, .inl (fun j => xJ (σ 28 j))) := rfl
theorem sa_29 (σ : xS) : xcel h0 g σ 29 = .inl (g.1, 100, .inl (fun j => xJ (σ 29 j))) := rfl
theorem sa_30 (σ : xS) : xcel h0 g σ 30 = .inl (g.1, 100, .inl (fun j => xJ (σ 30 j))) := rfl
theorem sa_31 (σ : xS) : xcel h0 g σ 31 = .inl (g.1, 100, .inl (fun j => xJ (σ 31 j))) := rfl
theorem sa_32 (σ : xS) : xcel h0 g σ 32 = .inl (g.1, 100, .inl (fun j => xJ (σ 32 j))) := rfl
theorem sa_33 (σ : xS) : xcel h0 g σ 33 = .inl (g.1, 100, .inl (fun j => xJ (σ 33 j))) := rfl
theorem sa_34 (σ : xS) : xcel h0 g σ 34 = .inl (g.1, 100, .inl (fun j => xJ (σ 34 j))) := rfl
theorem sa_35 (σ : xS) : xcel h0 g σ 35 = .inl (g.1, 100, .inl (fun j => xJ (σ 35 j))) := rfl
theorem sa_36 (σ : xS) : xcel h0 g σ 36 = .inl (g.1, 100, .inl (fun j => xJ (σ 36 j))) := rfl
theorem sa_37 (σ : xS) : xcel h0 g σ 37 = .inl (g.1, 100, .inl (fun j => xJ (σ 37 j))) := rfl
theorem sa_38 (σ : xS) : xcel h0 g σ 38 = .inl (g.1, 100, .inl (fun j => xJ (σ 38 j))) := rfl
theorem sa_39 (σ : xS) : xcel h0 g σ 39 = .inl (g.1, 100, .inl (fun j => xJ (σ 39 j))) := rfl
theorem sa_40 (σ : xS) : xcel h0 g σ 40 = .inl (g.1, 100, .inl (fun j => xJ (σ 40 j))) := rfl
theorem sa_41 (σ : xS) : xcel h0 g σ 41 = .inl (g.1, 100, .inl (fun j => xJ (σ 41 j))) := rfl
theorem sa_42 (σ : xS) : xcel h0 g σ 42 = .inl (g.1, 100, .inl (fun j => xJ (σ 42 j))) := rfl
theorem sa_43 (σ : xS) : xcel h0 g σ 43 = .inl (g.1, 100, .inl (fun j => xJ (σ 43 j))) := rfl
theorem sa_44 (σ : xS) : xcel h0 g σ 44 = .inl (g.1, 100, .inl (fun j => xJ (σ 44 j))) := rfl
theorem sa_45 (σ : xS) : xcel h0 g σ 45 = .inl (g.1, 100, .inl (fun j => xJ (σ 45 j))) := rfl
theorem sa_46 (σ : xS) : xcel h0 g σ 46 = .inl (g.1, 100, .inl (fun j => xJ (σ 46 j))) := rfl
theorem sa_47 (σ : xS) : xcel h0 g σ 47 = .inl (g.1, 100, .inl (fun j => xJ (σ 47 j))) := rfl
theorem sa_48 (σ : xS) : xcel h0 g σ 48 = .inl (g.1, 100, .inl (fun j => xJ (σ 48 j))) := rfl
theorem sa_49 (σ : xS) : xcel h0 g σ 49 = .inl (g.1, 100, .inl (fun j => xJ (σ 49 j))) := rfl
theorem sa_50 (σ : xS) : xcel h0 g σ 50 = .inl (g.1, 100, .inl (fun j => xJ (σ 50 j))) := rfl
theorem sa_51 (σ : xS) : xcel h0 g σ 51 = .inl (g.1, 100, .inl (fun j => xJ (σ 51 j))) := rfl
theorem sa_52 (σ : xS) : xcel h0 g σ 52 = .inl (g.1, 100, .inl (fun j => xJ (σ 52 j))) := rfl
theorem sa_53 (σ : xS) : xcel h0 g σ 53 = .inl (g.1, 100, .inl (fun j => xJ (σ 53 j))) := rfl
theorem sa_54 (σ : xS) : xcel h0 g σ 54 = .inl (g.1, 100, .inl (fun j => xJ (σ 54 j))) := rfl
theorem sa_55 (σ : xS) : xcel h0 g σ 55 = .inl (g.1, 100, .inl (fun j => xJ (σ 55 j))) := rfl
theorem sa_56 (σ : xS) : xcel h0 g σ 56 = .inl (g.1, 100, .inl (fun j => xJ (σ 56 j))) := rfl
theorem sa_57 (σ : xS) : xcel h0 g σ 57 = .inl (g.1, 100, .inl (fun j => xJ (σ 57 j))) := rfl
theorem sa_58 (σ : xS) : xcel h0 g σ 58 = .inl (g.1, 100, .inl (fun j => xJ (σ 58 j))) := rfl
theorem sa_59 (σ : xS) : xcel h0 g σ 59 = .inl (g.1, 100, .inl (fun j => xJ (σ 59 j))) := rfl
theorem sa_60 (σ : xS) : xcel h0 g σ 60 = .inl (g.1, 100, .inl (fun j => xJ (σ 60 j))) := rfl
theorem sa_61 (σ : xS) : xcel h0 g σ 61 = .inl (g.1, 100, .inl (fun j => xJ (σ 61 j))) := rfl
theorem sa_62 (σ : xS) : xcel h0 g σ 62 = .inl (g.1, 100, .inl (fun j => xJ (σ 62 j))) := rfl
theorem sa_63 (σ : xS) : xcel h0 g σ 63 = .inl (g.1, 100, .inl (fun j => xJ (σ 63 j))) := rfl
theorem sa_64 (σ : xS) : xcel h0 g σ 64 = .inl (g.1, 100, .inl (fun j => xJ (σ 64 j))) := rfl
theorem sa_65 (σ : xS) : xcel h0 g σ 65 = .inl (g.1, 100, .inl (fun j => xJ (σ 65 j))) := rfl
theorem sa_66 (σ : xS) : xcel h0 g σ 66 = .inl (g.1, 100, .inl (fun j => xJ (σ 66 j))) := rfl
theorem sa_67 (σ : xS) : xcel h0 g σ 67 = .inl (g.1, 100, .inl (fun j => xJ (σ 67 j))) := rfl
theorem sa_68 (σ : xS) : xcel h0 g σ 68 = .inl (g.1, 100, .inl (fun j => xJ (σ 68 j))) := rfl
theorem sa_69 (σ : xS) : xcel h0 g σ 69 = .inl (g.1, 100, .inl (fun j => xJ (σ 69 j))) := rfl
theorem sa_70 (σ : xS) : xcel h0 g σ 70 = .inl (g.1, 100, .inl (fun j => xJ (σ 70 j))) := rfl
theorem sa_71 (σ : xS) : xcel h0 g σ 71 = .inl (g.1, 100, .inl (fun j => xJ (σ 71 j))) := rfl
theorem sa_72 (σ : xS) : xcel h0 g σ 72 = .inl (g.1, 100, .inl (fun j => xJ (σ 72 j))) := rfl
theorem sa_73 (σ : xS) : xcel h0 g σ 73 = .inl (g.1, 100, .inl (fun j => xJ (σ 73 j))) := rfl
theorem sa_74 (σ : xS) : xcel h0 g σ 74 = .inl (g.1, 100, .inl (fun j => xJ (σ 74 j))) := rfl
theorem sa_75 (σ : xS) : xcel h0 g σ 75 = .inl (g.1, 100, .inl (fun j => xJ (σ 75 j))) := rfl
theorem sa_76 (σ : xS) : xcel h0 g σ 76 = .inl (g.1, 100, .inl (fun j => xJ (σ 76 j))) := rfl
theorem sa_77 (σ : xS) : xcel h0 g σ 77 = .inl (g.1, 100, .inl (fun j => xJ (σ 77 j))) := rfl
theorem sa_78 (σ : xS) : xcel h0 g σ 78 = .inl (g.1, 100, .inl (fun j => xJ (σ 78 j))) := rfl
theorem sa_79 (σ : xS) : xcel h0 g σ 79 = .inl (g.1, 100, .inl (fun j => xJ (σ 79 j))) := rfl
theorem sa_80 (σ : xS) : xcel h0 g σ 80 = .inl (g.1, 100, .inl (fun j => xJ (σ 80 j))) := rfl
theorem sa_81 (σ : xS) : xcel h0 g σ 81 = .inl (g.1, 100, .inl (fun j => xJ (σ 81 j))) := rfl
theorem sa_82 (σ : xS) : xcel h0 g σ 82 = .inl (g.1, 100, .inl (fun j => xJ (σ 82 j))) := rfl
theorem sa_83 (σ : xS) : xcel h0 g σ 83 = .inl (g.1, 100, .inl (fun j => xJ (σ 83 j))) := rfl
theorem sa_84 (σ : xS) : xcel h0 g σ 84 = .inl (g.1, 100, .inl (fun j => xJ (σ 84 j))) := rfl
theorem sa_85 (σ : xS) : xcel h0 g σ 85 = .inl (g.1, 100, .inl (fun j => xJ (σ 85 j))) := rfl
theorem sa_86 (σ : xS) : xcel h0 g σ 86 = .inl (g.1, 100, .inl (fun j => xJ (σ 86 j))) := rfl
theorem sa_87 (σ : xS) : xcel h0 g σ 87 = .inl (g.1, 100, .inl (fun j => xJ (σ 87 j))) := rfl
theorem sa_88 (σ : xS) : xcel h0 g σ 88 = .inl (g.1, 100, .inl (fun j => xJ (σ 88 j))) := rfl
theorem sa_89 (σ : xS) : xcel h0 g σ 89 = .inl (g.1, 100, .inl (fun j => xJ (σ 89 j))) := rfl
theorem sa_90 (σ : xS) : xcel h0 g σ 90 = .inl (g.1, 100, .inl (fun j => xJ (σ 90 j))) := rfl
theorem sa_91 (σ : xS) : xcel h0 g σ 91 = .inl (g.1, 100, .inl (fun j => xJ (σ 91 j))) := rfl
theorem sa_92 (σ : xS) : xcel h0 g σ 92 = .inl (g.1, 100, .inl (fun j => xJ (σ 92 j))) := rfl
theorem sa_93 (σ : xS) : xcel h0 g σ 93 = .inl (g.1, 100, .inl (fun j => xJ (σ 93 j))) := rfl
theorem sa_94 (σ : xS) : xcel h0 g σ 94 = .inl (g.1, 100, .inl (fun j => xJ (σ 94 j))) := rfl
theorem sa_95 (σ : xS) : xcel h0 g σ 95 = .inl (g.1, 100, .inl (fun j => xJ (σ 95 j))) := rfl
theorem sa_96 (σ : xS) : xcel h0 g σ 96 = .inl (g.1, 100, .inl (fun j => xJ (σ 96 j))) := rfl
theorem sa_97 (σ : xS) : xcel h0 g σ 97 = .inl (g.1, 100, .inl (fun j => xJ (σ 97 j))) := rfl
theorem sa_98 (σ : xS) : xcel h0 g σ 98 = .inl (g.1, 100, .inl (fun j => xJ (σ 98 j))) := rfl
theorem sa_99 (σ : xS) : xcel h0 g σ 99 = .inl (g.1, 100, .inl (fun j => xJ (σ 99 j))) := rfl
theorem sa_100 (σ : xS) : xcel h0 g σ 100 = .inl (g.1, 100, .inl (fun j => xJ (σ 100 j))) := rfl
theorem sa_101 (σ : xS) : xcel h0 g σ 101 = .inl (g.1, 100, .inl (fun j => xJ (σ 101 j))) := rfl
theorem sa_102 (σ : xS) : xcel h0 g σ 102 = .inl (g.1, 100, .inl (fun j => xJ (σ 102 j))) := rfl
theorem sa_103 (σ : xS) : xcel h0 g σ 103 = .inl (g.1, 100, .inl (fun j => xJ (σ 103 j))) := rfl
theorem sa_104 (σ : xS) : xcel h0 g σ 104 = .inl (g.1, 100, .inl (fun j => xJ (σ 104 j))) := rfl
theorem sa_105 (σ : xS) : xcel h0 g σ 105 = .inl (g.1, 100, .inl (fun j => xJ (σ 105 j))) := rfl
theorem sa_106 (σ : xS) : xcel h0 g σ 106 = .inl (g.1, 100, .inl (fun j => xJ (σ 106 j))) := rfl
theorem sa_107 (σ : xS) : xcel h0 g σ 107 = .inl (g.2.1, 100, .inl (fun j => xJ (σ 107 j))) := rfl
theorem sa_108 (σ : xS) : xcel h0 g σ 108 = .inl (g.1, 100, .inl (fun j => xJ (σ 108 j))) := rfl
theorem so_109 (σ : xS) : xcel h0 g σ 109 = .inr (4, xobj h0 σ 109 4) := rfl
theorem sa_110 (σ : xS) : xcel h0 g σ 110 = .inl (g.1, 300, .inl (fun j => xJ (σ 110 j))) := rfl
theorem sa_111 (σ : xS) : xcel h0 g σ 111 = .inl (g.1, 300, .inl (fun j => xJ (σ 111 j))) := rfl
theorem sa_112 (σ : xS) : xcel h0 g σ 112 = .inl (g.1, 16, .inl (fun j => xJ (σ 112 j))) := rfl
theorem sa_113 (σ : xS) : xcel h0 g σ 113 = .inl (g.1, 16, .inl (fun j => xJ (σ 113 j))) := rfl
theorem sa_114 (σ : xS) : xcel h0 g σ 114 = .inl (g.1, 16, .inl (fun j => xJ (σ 114 j))) := rfl
theorem sa_115 (σ : xS) : xcel h0 g σ 115 = .inl (g.1, 7, .inl (fun j => xJ (σ 115 j))) := rfl
theorem sa_116 (σ : xS) : xcel h0 g σ 116 = .inl (g.1, 64, .inl (fun j => xJ (σ 116 j))) := rfl
theorem so_117 (σ : xS) : xcel h0 g σ 117 = .inr (5, xobj h0 σ 117 5) := rfl
theorem so_118 (σ : xS) : xcel h0 g σ 118 = .inr (4, xobj h0 σ 118 4) := rfl
theorem sa_119 (σ : xS) : xcel h0 g σ 119 = .inl (g.1, 300, .inl (fun j => xJ (σ 119 j))) := rfl
theorem sa_120 (σ : xS) : xcel h0 g σ 120 = .inl (g.1, 300, .inl (fun j => xJ (σ 120 j))) := rfl
theorem sa_121 (σ : xS) : xcel h0 g σ 121 = .inl (g.1, 16, .inl (fun j => xJ (σ 121 j))) := rfl
theorem sa_122 (σ : xS) : xcel h0 g σ 122 = .inl (g.1, 16, .inl (fun j => xJ (σ 122 j))) := rfl
theorem sa_123 (σ : xS) : xcel h0 g σ 123 = .inl (g.1, 16, .inl (fun j => xJ (σ 123 j))) := rfl
theorem sa_124 (σ : xS) : xcel h0 g σ 124 = .inl (g.1, 7, .inl (fun j => xJ (σ 124 j))) := rfl
theorem sa_125 (σ : xS) : xcel h0 g σ 125 = .inl (g.1, 64, .inl (fun j => xJ (σ 125 j))) := rfl
theorem so_126 (σ : xS) : xcel h0 g σ 126 = .inr (9, xobj h0 σ 126 9) := rfl
theorem sa_127 (σ : xS) : xcel h0 g σ 127 = .inl (g.1, 60, .inl (fun j => xJ (σ 127 j))) := rfl
theorem so_128 (σ : xS) : xcel h0 g σ 128 = .inr (0, xobj h0 σ 128 0) := rfl
theorem sa_129 (σ : xS) : xcel h0 g σ 129 = .inl (g.1, 4, .inl (fun j => xJ (σ 129 j))) := rfl
theorem so_130 (σ : xS) : xcel h0 g σ 130 = .inr (7, xobj h0 σ 130 7) := rfl
theorem sa_131 (σ : xS) : xcel h0 g σ 131 = .inl (g.1, 100, .inl (fun j => xJ (σ 131 j))) := rfl
theorem sa_132 (σ : xS) : xcel h0 g σ 132 = .inl (g.1, 100, .inl (fun j => xJ (σ 132 j))) := rfl
theorem sa_133 (σ : xS) : xcel h0 g σ 133 = .inl (g.2.1, 100, .inl (fun j => xJ (σ 133 j))) := rfl
theorem sa_134 (σ : xS) : xcel h0 g σ 134 = .inl (g.1, 10, .inl (fun j => xJ (σ 134 j))) := rfl
theorem sa_135 (σ : xS) : xcel h0 g σ 135 = .inl (g.1, 10, .inl (fun j => xJ (σ 135 j))) := rfl
theorem so_136 (σ : xS) : xcel h0 g σ 136 = .inr (2, xobj h0 σ 136 2) := rfl
theorem sa_137 (σ : xS) : xcel h0 g σ 137 = .inl (g.1, 2, .inl (fun j => xJ (σ 137 j))) := rfl
theorem sg_138 (σ : xS) : xcel h0 g σ 138 = .inl (g.2.2.2.1, 2, .inr (.inr (.inr (.inr (fun j => some (h0 + xrow σ 138 j)))))) := rfl
theorem sa_139 (σ : xS) : xcel h0 g σ 139 = .inl (g.1, 0, .inl (fun j => xJ (σ 139 j))) := rfl
theorem sa_140 (σ : xS) : xcel h0 g σ 140 = .inl (g.1, 0, .inl (fun j => xJ (σ 140 j))) := rfl
theorem sa_141 (σ : xS) : xcel h0 g σ 141 = .inl (g.1, 2, .inl (fun j => xJ (σ 141 j))) := rfl
theorem sa_142 (σ : xS) : xcel h0 g σ 142 = .inl (g.1, 10, .inl (fun j => xJ (σ 142 j))) := rfl
theorem sa_143 (σ : xS) : xcel h0 g σ 143 = .inl (g.1, 10, .inl (fun j => xJ (σ 143 j))) := rfl
theorem sa_144 (σ : xS) : xcel h0 g σ 144 = .inl (g.1, 10, .inl (fun j => xJ (σ 144 j))) := rfl
theorem sa_145 (σ : xS) : xcel h0 g σ 145 = .inl (g.2.1, 10, .inl (fun j => xJ (σ 145 j))) := rfl
theorem so_146 (σ : xS) : xcel h0 g σ 146 = .inr (2, xobj h0 σ 146 2) := rfl
theorem sa_147 (σ : xS) : xcel h0 g σ 147 = .inl (g.1, 2, .inl (fun j => xJ (σ 147 j))) := rfl
theorem sg_148 (σ : xS) : xcel h0 g σ 148 = .inl (g.2.2.2.1, 2, .inr (.inr (.inr (.inr (fun j => some (h0 + xrow σ 148 j)))))) := rfl
theorem sa_149 (σ : xS) : xcel h0 g σ 149 = .inl (g.1, 0, .inl (fun j => xJ (σ 149 j))) := rfl
theorem sa_150 (σ : xS) : xcel h0 g σ 150 = .inl (g.1, 0, .inl (fun j => xJ (σ 150 j))) := rfl
theorem sa_151 (σ : xS) : xcel h0 g σ 151 = .inl (g.1, 2, .inl (fun j => xJ (σ 151 j))) := rfl
theorem sa_152 (σ : xS) : xcel h0 g σ 152 = .inl (g.1, 10, .inl (fun j => xJ (σ 152 j))) := rfl
theorem sa_153 (σ : xS) : xcel h0 g σ 153 = .inl (g.1, 10, .inl (fun j => xJ (σ 153 j))) := rfl
theorem sa_154 (σ : xS) : xcel h0 g σ 154 = .inl (g.1, 10, .inl (fun j => xJ (σ 154 j))) := rfl
theorem sa_155 (σ : xS) : xcel h0 g σ 155 = .inl (g.2.1, 10, .inl (fun j => xJ (σ 155 j))) := rfl
theorem so_156 (σ : xS) : xcel h0 g σ 156 = .inr (3, xobj h0 σ 156 3) := rfl
theorem sg_157 (σ : xS) : xcel h0 g σ 157 = .inl (g.2.2.2.2, 6, .inr (.inr (.inr (.inr (fun j => some (h0 + xrow σ 157 j)))))) := rfl
theorem so_158 (σ : xS) : xcel h0 g σ 158 = .inr (2, xobj h0 σ 158 2) := rfl
theorem sa_159 (σ : xS) : xcel h0 g σ 159 = .inl (g.1, 2, .inl (fun j => xJ (σ 159 j))) := rfl
theorem sg_160 (σ : xS) : xcel h0 g σ 160 = .inl (g.2.2.2.1, 2, .inr (.inr (.inr (.inr (fun j => some (h0 + xrow σ 160 j)))))) := rfl
theorem sa_161 (σ : xS) : xcel h0 g σ 161 = .inl (g.1, 0, .inl (fun j => xJ (σ 161 j))) := rfl
theorem sa_162 (σ : xS) : xcel h0 g σ 162 = .inl (g.1, 0, .inl (fun j => xJ (σ 162 j))) := rfl
theorem sa_163 (σ : xS) : xcel h0 g σ 163 = .inl (g.1, 2, .inl (fun j => xJ (σ 163 j))) := rfl
theorem sa_164 (σ : xS) : xcel h0 g σ 164 = .inl (g.1, 10, .inl (fun j => xJ (σ 164 j))) := rfl
theorem sa_165 (σ : xS) : xcel h0 g σ 165 = .inl (g.1, 10, .inl (fun j => xJ (σ 165 j))) := rfl
theorem sa_166 (σ : xS) : xcel h0 g σ 166 = .inl (g.1, 10, .inl (fun j => xJ (σ 166 j))) := rfl
theorem sa_167 (σ : xS) : xcel h0 g σ 167 = .inl (g.2.1, 10, .inl (fun j => xJ (σ 167 j))) := rfl
theorem so_168 (σ : xS) : xcel h0 g σ 168 = .inr (2, xobj h0 σ 168 2) := rfl
theorem sa_169 (σ : xS) : xcel h0 g σ 169 = .inl (g.1, 2, .inl (fun j => xJ (σ 169 j))) := rfl
theorem sg_170 (σ : xS) : xcel h0 g σ 170 = .inl (g.2.2.2.1, 2, .inr (.inr (.inr (.inr (fun j => some (h0 + xrow σ 170 j)))))) := rfl
theorem sa_171 (σ : xS) : xcel h0 g σ 171 = .inl (g.1, 0, .inl (fun j => xJ (σ 171 j))) := rfl
theorem sa_172 (σ : xS) : xcel h0 g σ 172 = .inl (g.1, 0, .inl (fun j => xJ (σ 172 j))) := rfl
theorem sa_173 (σ : xS) : xcel h0 g σ 173 = .inl (g.1, 2, .inl (fun j => xJ (σ 173 j))) := rfl
theorem sa_174 (σ : xS) : xcel h0 g σ 174 = .inl (g.1, 10, .inl (fun j => xJ (σ 174 j))) := rfl
theorem sa_175 (σ : xS) : xcel h0 g σ 175 = .inl (g.1, 10, .inl (fun j => xJ (σ 175 j))) := rfl
theorem sa_176 (σ : xS) : xcel h0 g σ 176 = .inl (g.1, 10, .inl (fun j => xJ (σ 176 j))) := rfl
theorem sa_177 (σ : xS) : xcel h0 g σ 177 = .inl (g.2.1, 10, .inl (fun j => xJ (σ 177 j))) := rfl
theorem so_178 (σ : xS) : xcel h0 g σ 178 = .inr (2, xobj h0 σ 178 2) := rfl
theorem sa_179 (σ : xS) : xcel h0 g σ 179 = .inl (g.1, 2, .inl (fun j => xJ (σ 179 j))) := rfl
theorem sg_180 (σ : xS) : xcel h0 g σ 180 = .inl (g.2.2.2.1, 2, .inr (.inr (.inr (.inr (fun j => some (h0 + xrow σ 180 j)))))) := rfl
theorem sa_181 (σ : xS) : xcel h0 g σ 181 = .inl (g.1, 0, .inl (fun j => xJ (σ 181 j))) := rfl
theorem sa_182 (σ : xS) : xcel h0 g σ 182 = .inl (g.1, 0, .inl (fun j => xJ (σ 182 j))) := rfl
theorem sa_183 (σ : xS) : xcel h0 g σ 183 = .inl (g.1, 2, .inl (fun j => xJ (σ 183 j))) := rfl
theorem sa_184 (σ : xS) : xcel h0 g σ 184 = .inl (g.1, 10, .inl (fun j => xJ (σ 184 j))) := rfl
theorem sa_185 (σ : xS) : xcel h0 g σ 185 = .inl (g.1, 10, .inl (fun j => xJ (σ 185 j))) := rfl
theorem sa_186 (σ : xS) : xcel h0 g σ 186 = .inl (g.1, 10, .inl (fun j => xJ (σ 186 j))) := rfl
theorem sa_187 (σ : xS) : xcel h0 g σ 187 = .inl (g.2.1, 10, .inl (fun j => xJ (σ 187 j))) := rfl
theorem so_188 (σ : xS) : xcel h0 g σ 188 = .inr (2, xobj h0 σ 188 2) := rfl
theorem sa_189 (σ : xS) : xcel h0 g σ 189 = .inl (g.1, 2, .inl (fun j => xJ (σ 189 j))) := rfl
theorem sg_190 (σ : xS) : xcel h0 g σ 190 = .inl (g.2.2.2.1, 2, .inr (.inr (.inr (.inr (fun j => some (h0 + xrow σ 190 j)))))) := rfl
theorem sa_191 (σ : xS) : xcel h0 g σ 191 = .inl (g.1, 0, .inl (fun j => xJ (σ 191 j))) := rfl
theorem sa_192 (σ : xS) : xcel h0 g σ 192 = .inl (g.1, 0, .inl (fun j => xJ (σ 192 j))) := rfl
theorem sa_193 (σ : xS) : xcel h0 g σ 193 = .inl (g.1, 2, .inl (fun j => xJ (σ 193 j))) := rfl
theorem sa_194 (σ : xS) : xcel h0 g σ 194 = .inl (g.1, 10, .inl (fun j => xJ (σ 194 j))) := rfl
theorem sa_195 (σ : xS) : xcel h0 g σ 195 = .inl (g.1, 10, .inl (fun j => xJ (σ 195 j))) := rfl
theorem sa_196 (σ : xS) : xcel h0 g σ 196 = .inl (g.1, 10, .inl (fun j => xJ (σ 196 j))) := rfl
theorem sa_197 (σ : xS) : xcel h0 g σ 197 = .inl (g.2.1, 10, .inl (fun j => xJ (σ 197 j))) := rfl
theorem so_198 (σ : xS) : xcel h0 g σ 198 = .inr (2, xobj h0 σ 198 2) := rfl
theorem sa_199 (σ : xS) : xcel h0 g σ 199 = .inl (g.1, 2, .inl (fun j => xJ (σ 199 j))) := rfl
theorem sg_200 (σ : xS) : xcel h0 g σ 200 = .inl (g.2.2.2.1, 2, .inr (.inr (.inr (.inr (fun j => some (h0 + xrow σ 200 j)))))) := rfl
theorem sa_201 (σ : xS) : xcel h0 g σ 201 = .inl (g.1, 0, .inl (fun j => xJ (σ 201 j))) := rfl
theorem sa_202 (σ : xS) : xcel h0 g σ 202 = .inl (g.1, 0, .inl (fun j => xJ (σ 202 j))) := rfl
theorem sa_203 (σ : xS) : xcel h0 g σ 203 = .inl (g.1, 2, .inl (fun j => xJ (σ 203 j))) := rfl
theorem sa_204 (σ : xS) : xcel h0 g σ 204 = .inl (g.1, 10, .inl (fun j => xJ (σ 204 j))) := rfl
theorem sa_205 (σ : xS) : xcel h0 g σ 205 = .inl (g.1, 10, .inl (fun j => xJ (σ 205 j))) := rfl
theorem sa_206 (σ : xS) : xcel h0 g σ 206 = .inl (g.1, 10, .inl (fun j => xJ (σ 206 j))) := rfl
theorem sa_207 (σ : xS) : xcel h0 g σ 207 = .inl (g.2.1, 10, .inl (fun j => xJ (σ 207 j))) := rfl
theorem so_208 (σ : xS) : xcel h0 g σ 208 = .inr (2, xobj h0 σ 208 2) := rfl
theorem sa_209 (σ : xS) : xcel h0 g σ 209 = .inl (g.1, 2, .inl (fun j => xJ (σ 209 j))) := rfl
theorem sg_210 (σ : xS) : xcel h0 g σ 210 = .inl (g.2.2.2.1, 2, .inr (.inr (.inr (.inr (fun j => some (h0 + xrow σ 210 j)))))) := rfl
theorem sa_211 (σ : xS) : xcel h0 g σ 211 = .inl (g.1, 0, .inl (fun j => xJ (σ 211 j))) := rfl
theorem sa_212 (σ : xS) : xcel h0 g σ 212 = .inl (g.1, 0, .inl (fun j => xJ (σ 212 j))) := rfl
theorem sa_213 (σ : xS) : xcel h0 g σ 213 = .inl (g.1, 2, .inl (fun j => xJ (σ 213 j))) := rfl
theorem sa_214 (σ : xS) : xcel h0 g σ 214 = .inl (g.1, 10, .inl (fun j => xJ (σ 214 j))) := rfl
theorem sa_215 (σ : xS) : xcel h0 g σ 215 = .inl (g.1, 10, .inl (fun j => xJ (σ 215 j))) := rfl
theorem sa_216 (σ : xS) : xcel h0 g σ 216 = .inl (g.1, 10, .inl (fun j => xJ (σ 216 j))) := rfl
theorem sa_217 (σ : xS) : xcel h0 g σ 217 = .inl (g.2.1, 10, .inl (fun j => xJ (σ 217 j))) := rfl
theorem sg_218 (σ : xS) : xcel h0 g σ 218 = .inl (g.2.2.2.1, 5, .inr (.inr (.inr (.inr (fun j => some (h0 + xrow σ 218 j)))))) := rfl
theorem sa_219 (σ : xS) : xcel h0 g σ 219 = .inl (g.1, 1, .inl (fun j => xJ (σ 219 j))) := rfl
theorem sa_220 (σ : xS) : xcel h0 g σ 220 = .inl (g.1, 1, .inl (fun j => xJ (σ 220 j))) := rfl
theorem sa_221 (σ : xS) : xcel h0 g σ 221 = .inl (g.1, 1, .inl (fun j => xJ (σ 221 j))) := rfl
theorem sa_222 (σ : xS) : xcel h0 g σ 222 = .inl (g.1, 1, .inl (fun j => xJ (σ 222 j))) := rfl
theorem sa_223 (σ : xS) : xcel h0 g σ 223 = .inl (g.1, 1, .inl (fun j => xJ (σ 223 j))) := rfl
theorem sa_224 (σ : xS) : xcel h0 g σ 224 = .inl (g.1, 5, .inl (fun j => xJ (σ 224 j))) := rfl
theorem sa_225 (σ : xS) : xcel h0 g σ 225 = .inl (g.1, 5, .inl (fun j => xJ (σ 225 j))) := rfl
theorem sa_226 (σ : xS) : xcel h0 g σ 226 = .inl (g.1, 100, .inl (fun j => xJ (σ 226 j))) := rfl
theorem sg_227 (σ : xS) : xcel h0 g σ 227 = .inl (g.2.2.2.1, 31, .inr (.inr (.inr (.inr (fun j => some (h0 + xrow σ 227 j)))))) := rfl
theorem sa_228 (σ : xS) : xcel h0 g σ 228 = .inl (g.1, 100, .inl (fun j => xJ (σ 228 j))) := rfl
theorem sa_229 (σ : xS) : xcel h0 g σ 229 = .inl (g.1, 100, .inl (fun j => xJ (σ 229 j))) := rfl
theorem sa_230 (σ : xS) : xcel h0 g σ 230 = .inl (g.1, 100, .inl (fun j => xJ (σ 230 j))) := rfl
theorem sa_231 (σ : xS) : xcel h0 g σ 231 = .inl (g.1, 100, .inl (fun j => xJ (σ 231 j))) := rfl
theorem sa_232 (σ : xS) : xcel h0 g σ 232 = .inl (g.1, 100, .inl (fun j => xJ (σ 232 j))) := rfl
theorem sa_233 (σ : xS) : xcel h0 g σ 233 = .inl (g.1, 100, .inl (fun j => xJ (σ 233 j))) := rfl
theorem sa_234 (σ : xS) : xcel h0 g σ 234 = .inl (g.1, 100, .inl (fun j => xJ (σ 234 j))) := rfl
theorem sa_235 (σ : xS) : xcel h0 g σ 235 = .inl (g.1, 100, .inl (fun j => xJ (σ 235 j))) := rfl
theorem sa_236 (σ : xS) : xcel h0 g σ 236 = .inl (g.1, 100, .inl (fun j => xJ (σ 236 j))) := rfl
theorem sa_237 (σ : xS) : xcel h0 g σ 237 = .inl (g.1, 100, .inl (fun j => xJ (σ 237 j))) := rfl
theorem sa_238 (σ : xS) : xcel h0 g σ 238 = .inl (g.1, 100, .inl (fun j => xJ (σ 238 j))) := rfl
theorem sa_239 (σ : xS) : xcel h0 g σ 239 = .inl (g.1, 100, .inl (fun j => xJ (σ 239 j))) := rfl
theorem sa_240 (σ : xS) : xcel h0 g σ 240 = .inl (g.1, 100, .inl (fun j => xJ (σ 240 j))) := rfl
theorem sa_241 (σ : xS) : xcel h0 g σ 241 = .inl (g.1, 100, .inl (fun j => xJ (σ 241 j))) := rfl
theorem sa_242 (σ : xS) : xcel h0 g σ 242 = .inl (g.1, 100, .inl (fun j => xJ (σ 242 j))) := rfl
theorem sa_243 (σ : xS) : xcel h0 g σ 243 = .inl (g.1, 100, .inl (fun j => xJ (σ 243 j))) := rfl
theorem sa_244 (σ : xS) : xcel h0 g σ 244 = .inl (g.1, 100, .inl (fun j => xJ (σ 244 j))) := rfl
theorem sa_245 (σ : xS) : xcel h0 g σ 245 = .inl (g.1, 100, .inl (fun j => xJ (σ 245 j))) := rfl
theorem sa_246 (σ : xS) : xcel h0 g σ 246 = .inl (g.1, 100, .inl (fun j => xJ (σ 246 j))) := rfl
theorem sa_247 (σ : xS) : xcel h0 g σ 247 = .inl (g.1, 100, .inl (fun j => xJ (σ 247 j))) := rfl
theorem sa_248 (σ : xS) : xcel h0 g σ 248 = .inl (g.1, 100, .inl (fun j => xJ (σ 248 j))) := rfl
theorem sa_249 (σ : xS) : xcel h0 g σ 249 = .inl (g.1, 100, .inl (fun j => xJ (σ 249 j))) := rfl
theorem sa_250 (σ : xS) : xcel h0 g σ 250 = .inl (g.1, 100, .inl (fun j => xJ (σ 250 j))) := rfl
theorem sa_251 (σ : xS) : xcel h0 g σ 251 = .inl (g.1, 100, .inl (fun j => xJ (σ 251 j))) := rfl
theorem sa_252 (σ : xS) : xcel h0 g σ 252 = .inl (g.1, 100, .inl (fun j => xJ (σ 252 j))) := rfl
theorem sa_253 (σ : xS) : xcel h0 g σ 253 = .inl (g.1, 100, .inl (fun j => xJ (σ 253 j))) := rfl
theorem sa_254 (σ : xS) : xcel h0 g σ 254 = .inl (g.1, 100, .inl (fun j => xJ (σ 254 j))) := rfl
theorem sa_255 (σ : xS) : xcel h0 g σ 255 = .inl (g.1, 100, .inl (fun j => xJ (σ 255 j))) := rfl
theorem sa_256 (σ : xS) : xcel h0 g σ 256 = .inl (g.1, 100, .inl (fun j => xJ (σ 256 j))) := rfl
theorem sa_257 (σ : xS) : xcel h0 g σ 257 = .inl (g.1, 100, .inl (fun j => xJ (σ 257 j))) := rfl
theorem sa_258 (σ : xS) : xcel h0 g σ 258 = .inl (g.1, 100, .inl (fun j => xJ (σ 258 j))) := rfl
theorem sa_259 (σ : xS) : xcel h0 g σ 259 = .inl (g.1, 100, .inl (fun j => xJ (σ 259 j))) := rfl
theorem sa_260 (σ : xS) : xcel h0 g σ 260 = .inl (g.1, 100, .inl (fun j => xJ (σ 260 j))) := rfl
theorem so_261 (σ : xS) : xcel h0 g σ 261 = .inr (1, xobj h0 σ 261 1) := rfl
theorem sa_262 (σ : xS) : xcel h0 g σ 262 = .inl (g.1, 10, .inl (fun j => xJ (σ 262 j))) := rfl
theorem sa_263 (σ : xS) : xcel h0 g σ 263 = .inl (g.1, 10, .inl (fun j => xJ (σ 263 j))) := rfl
theorem sa_264 (σ : xS) : xcel h0 g σ 264 = .inl (g.1, 100, .inl (fun j => xJ (σ 264 j))) := rfl
theorem sa_265 (σ : xS) : xcel h0 g σ 265 = .inl (g.1, 100, .inl (fun j => xJ (σ 265 j))) := rfl
theorem sa_266 (σ : xS) : xcel h0 g σ 266 = .inl (g.1, 10, .inl (fun j => xJ (σ 266 j))) := rfl
theorem sa_267 (σ : xS) : xcel h0 g σ 267 = .inl (g.1, 8, .inl (fun j => xJ (σ 267 j))) := rfl
theorem so_268 (σ : xS) : xcel h0 g σ 268 = .inr (11, xobj h0 σ 268 11) := rfl
theorem sa_269 (σ : xS) : xcel h0 g σ 269 = .inl (g.1, 39, .inl (fun j => xJ (σ 269 j))) := rfl
theorem sa_270 (σ : xS) : xcel h0 g σ 270 = .inl (g.1, 39, .inl (fun j => xJ (σ 270 j))) := rfl
theorem sa_271 (σ : xS) : xcel h0 g σ 271 = .inl (g.1, 39, .inl (fun j => xJ (σ 271 j))) := rfl
theorem sa_272 (σ : xS) : xcel h0 g σ 272 = .inl (g.1, 100, .inl (fun j => xJ (σ 272 j))) := rfl
theorem sa_273 (σ : xS) : xcel h0 g σ 273 = .inl (g.1, 4, .inl (fun j => xJ (σ 273 j))) := rfl
theorem sa_274 (σ : xS) : xcel h0 g σ 274 = .inl (g.1, 2, .inl (fun j => xJ (σ 274 j))) := rfl
theorem sa_275 (σ : xS) : xcel h0 g σ 275 = .inl (g.2.2.1, 120, .inl (fun j => xJ (σ 275 j))) := rfl
theorem sa_276 (σ : xS) : xcel h0 g σ 276 = .inl (g.2.2.1, 260, .inl (fun j => xJ (σ 276 j))) := rfl
theorem sa_277 (σ : xS) : xcel h0 g σ 277 = .inl (g.1, 260, .inl (fun j => xJ (σ 277 j))) := rfl
theorem sa_278 (σ : xS) : xcel h0 g σ 278 = .inl (g.1, 260, .inl (fun j => xJ (σ 278 j))) := rfl
theorem sa_279 (σ : xS) : xcel h0 g σ 279 = .inl (g.1, 16, .inl (fun j => xJ (σ 279 j))) := rfl
theorem sa_280 (σ : xS) : xcel h0 g σ 280 = .inl (g.1, 16, .inl (fun j => xJ (σ 280 j))) := rfl
theorem sa_281 (σ : xS) : xcel h0 g σ 281 = .inl (g.1, 16, .inl (fun j => xJ (σ 281 j))) := rfl
theorem sa_282 (σ : xS) : xcel h0 g σ 282 = .inl (g.1, 16, .inl (fun j => xJ (σ 282 j))) := rfl
theorem sa_283 (σ : xS) : xcel h0 g σ 283 = .inl (g.1, 260, .inl (fun j => xJ (σ 283 j))) := rfl
theorem sa_284 (σ : xS) : xcel h0 g σ 284 = .inl (g.1, 16, .inl (fun j => xJ (σ 284 j))) := rfl
theorem sa_285 (σ : xS) : xcel h0 g σ 285 = .inl (g.1, 16, .inl (fun j => xJ (σ 285 j))) := rfl
theorem sa_286 (σ : xS) : xcel h0 g σ 286 = .inl (g.1, 16, .inl (fun j => xJ (σ 286 j))) := rfl
theorem sa_287 (σ : xS) : xcel h0 g σ 287 = .inl (g.1, 16, .inl (fun j => xJ (σ 287 j))) := rfl
theorem sa_288 (σ : xS) : xcel h0 g σ 288 = .inl (g.1, 100, .inl (fun j => xJ (σ 288 j))) := rfl
theorem sa_289 (σ : xS) : xcel h0 g σ 289 = .inl (g.2.2.1, 60, .inl (fun j => xJ (σ 289 j))) := rfl
theorem sa_290 (σ : xS) : xcel h0 g σ 290 = .inl (g.1, 2, .inl (fun j => xJ (σ 290 j))) := rfl
theorem sa_291 (σ : xS) : xcel h0 g σ 291 = .inl (g.1, 2, .inl (fun j => xJ (σ 291 j))) := rfl
theorem sa_292 (σ : xS) : xcel h0 g σ 292 = .inl (g.1, 2, .inl (fun j => xJ (σ 292 j))) := rfl
theorem sa_293 (σ : xS) : xcel h0 g σ 293 = .inl (g.1, 260, .inl (fun j => xJ (σ 293 j))) := rfl
theorem sa_294 (σ : xS) : xcel h0 g σ 294 = .inl (g.1, 7, .inl (fun j => xJ (σ 294 j))) := rfl
theorem sa_295 (σ : xS) : xcel h0 g σ 295 = .inl (g.1, 100, .inl (fun j => xJ (σ 295 j))) := rfl
theorem sa_296 (σ : xS) : xcel h0 g σ 296 = .inl (g.1, 100, .inl (fun j => xJ (σ 296 j))) := rfl
theorem sa_297 (σ : xS) : xcel h0 g σ 297 = .inl (g.1, 10, .inl (fun j => xJ (σ 297 j))) := rfl
theorem sa_298 (σ : xS) : xcel h0 g σ 298 = .inl (g.1, 10, .inl (fun j => xJ (σ 298 j))) := rfl
theorem sa_299 (σ : xS) : xcel h0 g σ 299 = .inl (g.2.1, 100, .inl (fun j => xJ (σ 299 j))) := rfl
theorem sa_300 (σ : xS) : xcel h0 g σ 300 = .inl (g.2.1, 1024, .inl (fun j => xJ (σ 300 j))) := rfl
theorem sa_301 (σ : xS) : xcel h0 g σ 301 = .inl (g.1, 100, .inl (fun j => xJ (σ 301 j))) := rfl
theorem sa_302 (σ : xS) : xcel h0 g σ 302 = .inl (g.1, 3100, .inl (fun j => xJ (σ 302 j))) := rfl
theorem sa_303 (σ : xS) : xcel h0 g σ 303 = .inl (g.1, 3100, .inl (fun j => xJ (σ 303 j))) := rfl
theorem sa_304 (σ : xS) : xcel h0 g σ 304 = .inl (g.1, 10000, .inl (fun j => xJ (σ 304 j))) := rfl
theorem sa_305 (σ : xS) : xcel h0 g σ 305 = .inl (g.1, 100, .inl (fun j => xJ (σ 305 j))) := rfl
theorem sa_306 (σ : xS) : xcel h0 g σ 306 = .inl (g.1, 8, .inl (fun j => xJ (σ 306 j))) := rfl
theorem sa_307 (σ : xS) : xcel h0 g σ 307 = .inl (g.1, 8, .inl (fun j => xJ (σ 307 j))) := rfl
theorem sa_308 (σ : xS) : xcel h0 g σ 308 = .inl (g.1, 2, .inl (fun j => xJ (σ 308 j))) := rfl
theorem sa_309 (σ : xS) : xcel h0 g σ 309 = .inl (g.2.2.1, 120, .inl (fun j => xJ (σ 309 j))) := rfl
end X3
end
