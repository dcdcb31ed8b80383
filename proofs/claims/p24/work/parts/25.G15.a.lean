theorem st_X11_9 (h0 : Nat) (σ : xS) (k : Nat) (a : Int) : xobj h0 (xU σ k 9 a) k 11 = (xobj h0 σ k 11).set 9 (.int (xJ a)) := by simp [xobj, xU]
theorem ln_X11_9 (h0 : Nat) (σ : xS) (k : Nat) : 9 < (xobj h0 σ k 11).length := by simp [xobj]
theorem st_X11_11 (h0 : Nat) (σ : xS) (k : Nat) (a : Int) : xobj h0 (xU σ k 11 a) k 11 = (xobj h0 σ k 11).set 11 (.int (xJ a)) := by simp [xobj, xU]
theorem ln_X11_11 (h0 : Nat) (σ : xS) (k : Nat) : 11 < (xobj h0 σ k 11).length := by simp [xobj]
theorem st_X11_12 (h0 : Nat) (σ : xS) (k : Nat) (a : Int) : xobj h0 (xU σ k 12 a) k 11 = (xobj h0 σ k 11).set 12 (.int (xJ a)) := by simp [xobj, xU]
theorem ln_X11_12 (h0 : Nat) (σ : xS) (k : Nat) : 12 < (xobj h0 σ k 11).length := by simp [xobj]
theorem st_X11_13 (h0 : Nat) (σ : xS) (k : Nat) (a : Int) : xobj h0 (xU σ k 13 a) k 11 = (xobj h0 σ k 11).set 13 (.int (xJ a)) := by simp [xobj, xU]
theorem ln_X11_13 (h0 : Nat) (σ : xS) (k : Nat) : 13 < (xobj h0 σ k 11).length := by simp [xobj]
theorem st_X11_14 (h0 : Nat) (σ : xS) (k : Nat) (a : Int) : xobj h0 (xU σ k 14 a) k 11 = (xobj h0 σ k 11).set 14 (.int (xJ a)) := by simp [xobj, xU]
theorem ln_X11_14 (h0 : Nat) (σ : xS) (k : Nat) : 14 < (xobj h0 σ k 11).length := by simp [xobj]
theorem st_X11_15 (h0 : Nat) (σ : xS) (k : Nat) (a : Int) : xobj h0 (xU σ k 15 a) k 11 = (xobj h0 σ k 11).set 15 (.int (xJ a)) := by simp [xobj, xU]
theorem ln_X11_15 (h0 : Nat) (σ : xS) (k : Nat) : 15 < (xobj h0 σ k 11).length := by simp [xobj]
theorem cf_X11_here : xCF yX11_here cX11_here 1 (some .int) 0 := ⟨xq 1392 (by decide +kernel) rfl, xq 179 (by decide +kernel) rfl, by decide +kernel⟩
theorem cf_X11_isDigit : xCF yX11_isDigit cX11_isDigit 1 (some .boolean) 0 := ⟨xq 1486 (by decide +kernel) rfl, xq 179 (by decide +kernel) rfl, by decide +kernel⟩
theorem cf_X11_wrongAt : xCF yX11_wrongAt cX11_wrongAt 3 (some .boolean) 2 := ⟨xq 1402 (by decide +kernel) rfl, xq 179 (by decide +kernel) rfl, by decide +kernel⟩
theorem wq106 : Cond.selects yX11_here.cls yX11_here yX11_here ∈ xTB := xq 106 (by decide +kernel) rfl
theorem wq107 : Cond.selects yX11_wrongAt.cls yX11_wrongAt yX11_wrongAt ∈ xTB := xq 107 (by decide +kernel) rfl
theorem wq119 : Cond.selects yX11_isDigit.cls yX11_isDigit yX11_isDigit ∈ xTB := xq 119 (by decide +kernel) rfl
theorem wq1194 : Cond.fieldLink "ShadowCourtModel" (171) "ShadowCourtModel" "place0" "I" ∈ xTB := xq 1194 (by decide +kernel) rfl
theorem wq1195 : Cond.fieldLink "ShadowCourtModel" (174) "ShadowCourtModel" "length0" "I" ∈ xTB := xq 1195 (by decide +kernel) rfl
theorem wq1196 : Cond.fieldLink "ShadowCourtModel" (181) "ShadowCourtModel" "fault" "I" ∈ xTB := xq 1196 (by decide +kernel) rfl
theorem wq1197 : Cond.fieldLink "ShadowCourtModel" (187) "ShadowCourtModel" "number0" "I" ∈ xTB := xq 1197 (by decide +kernel) rfl
theorem wq1198 : Cond.fieldLink "ShadowCourtModel" (198) "ShadowCourtModel" "open" "I" ∈ xTB := xq 1198 (by decide +kernel) rfl
theorem wq1199 : Cond.fieldLink "ShadowCourtModel" (194) "ShadowCourtModel" "codeMany" "I" ∈ xTB := xq 1199 (by decide +kernel) rfl
theorem wq1200 : Cond.fieldLink "ShadowCourtModel" (201) "ShadowCourtModel" "waiting" "I" ∈ xTB := xq 1200 (by decide +kernel) rfl
theorem wq1203 : Cond.fieldLink "ShadowCourtModel" (35) "ShadowCourtModel" "said" "[I" ∈ xTB := xq 1203 (by decide +kernel) rfl
theorem wq1204 : Cond.fieldLink "ShadowCourtModel" (38) "ShadowCourtModel" "waitsAt" "[I" ∈ xTB := xq 1204 (by decide +kernel) rfl
theorem wq1389 : Cond.methodLink "ShadowCourtModel" (177) yX11_here ∈ xTB := xq 1389 (by decide +kernel) rfl
theorem wq1391 : Cond.instanceMethod yX11_here ∈ xTB := xq 1391 (by decide +kernel) rfl
theorem wq1399 : Cond.methodLink "ShadowCourtModel" (184) yX11_wrongAt ∈ xTB := xq 1399 (by decide +kernel) rfl
theorem wq1401 : Cond.instanceMethod yX11_wrongAt ∈ xTB := xq 1401 (by decide +kernel) rfl
theorem wq1483 : Cond.methodLink "ShadowCourtModel" (190) yX11_isDigit ∈ xTB := xq 1483 (by decide +kernel) rfl
theorem wq1485 : Cond.instanceMethod yX11_isDigit ∈ xTB := xq 1485 (by decide +kernel) rfl
theorem dX11_factOf_0 : decode cX11_factOf 0 = .ok (.iload_n 0, 1) := by decide +kernel
theorem dX11_factOf_1 : decode cX11_factOf 1 = .ok (.tableswitch 118 98 119 #[113, 118, 118, 118, 109, 118, 105, 118, 107, 118, 118, 118, 118, 118, 118, 118, 118, 115, 103, 118, 118, 111], 103) := by decide +kernel
theorem dX11_factOf_104 : decode cX11_factOf 104 = .ok (.iconst 0, 1) := by decide +kernel
theorem dX11_factOf_105 : decode cX11_factOf 105 = .ok (.ireturn, 1) := by decide +kernel
theorem dX11_factOf_106 : decode cX11_factOf 106 = .ok (.iconst 1, 1) := by decide +kernel
theorem dX11_factOf_107 : decode cX11_factOf 107 = .ok (.ireturn, 1) := by decide +kernel
theorem dX11_factOf_108 : decode cX11_factOf 108 = .ok (.iconst 2, 1) := by decide +kernel
theorem dX11_factOf_109 : decode cX11_factOf 109 = .ok (.ireturn, 1) := by decide +kernel
theorem dX11_factOf_110 : decode cX11_factOf 110 = .ok (.iconst 3, 1) := by decide +kernel
theorem dX11_factOf_111 : decode cX11_factOf 111 = .ok (.ireturn, 1) := by decide +kernel
theorem dX11_factOf_112 : decode cX11_factOf 112 = .ok (.iconst 4, 1) := by decide +kernel
theorem dX11_factOf_113 : decode cX11_factOf 113 = .ok (.ireturn, 1) := by decide +kernel
theorem dX11_factOf_114 : decode cX11_factOf 114 = .ok (.iconst 5, 1) := by decide +kernel
theorem dX11_factOf_115 : decode cX11_factOf 115 = .ok (.ireturn, 1) := by decide +kernel
theorem dX11_factOf_116 : decode cX11_factOf 116 = .ok (.bipush 6, 2) := by decide +kernel
theorem dX11_factOf_118 : decode cX11_factOf 118 = .ok (.ireturn, 1) := by decide +kernel
theorem dX11_factOf_119 : decode cX11_factOf 119 = .ok (.iconst (-1), 1) := by decide +kernel
theorem dX11_factOf_120 : decode cX11_factOf 120 = .ok (.ireturn, 1) := by decide +kernel
theorem dX11_here_0 : decode cX11_here 0 = .ok (.aload_n 0, 1) := by decide +kernel
theorem dX11_here_1 : decode cX11_here 1 = .ok (.getfield 171, 3) := by decide +kernel
theorem dX11_here_4 : decode cX11_here 4 = .ok (.aload_n 0, 1) := by decide +kernel
theorem dX11_here_5 : decode cX11_here 5 = .ok (.getfield 174, 3) := by decide +kernel
theorem dX11_here_8 : decode cX11_here 8 = .ok (.if_icmp .ge 19, 3) := by decide +kernel
theorem dX11_here_11 : decode cX11_here 11 = .ok (.aload_n 0, 1) := by decide +kernel
theorem dX11_here_12 : decode cX11_here 12 = .ok (.getfield 32, 3) := by decide +kernel
theorem dX11_here_15 : decode cX11_here 15 = .ok (.aload_n 0, 1) := by decide +kernel
theorem dX11_here_16 : decode cX11_here 16 = .ok (.getfield 171, 3) := by decide +kernel
theorem dX11_here_19 : decode cX11_here 19 = .ok (.baload, 1) := by decide +kernel
theorem dX11_here_20 : decode cX11_here 20 = .ok (.sipush 255, 3) := by decide +kernel
theorem dX11_here_23 : decode cX11_here 23 = .ok (.iand, 1) := by decide +kernel
theorem dX11_here_24 : decode cX11_here 24 = .ok (.goto 4, 3) := by decide +kernel
theorem dX11_here_27 : decode cX11_here 27 = .ok (.iconst (-1), 1) := by decide +kernel
theorem dX11_here_28 : decode cX11_here 28 = .ok (.ireturn, 1) := by decide +kernel
theorem dX11_isClause_0 : decode cX11_isClause 0 = .ok (.iload_n 0, 1) := by decide +kernel
theorem dX11_isClause_1 : decode cX11_isClause 1 = .ok (.bipush 97, 2) := by decide +kernel
theorem dX11_isClause_3 : decode cX11_isClause 3 = .ok (.if_icmp .eq 33, 3) := by decide +kernel
theorem dX11_isClause_6 : decode cX11_isClause 6 = .ok (.iload_n 0, 1) := by decide +kernel
theorem dX11_isClause_7 : decode cX11_isClause 7 = .ok (.bipush 108, 2) := by decide +kernel
theorem dX11_isClause_9 : decode cX11_isClause 9 = .ok (.if_icmp .eq 27, 3) := by decide +kernel
theorem dX11_isClause_12 : decode cX11_isClause 12 = .ok (.iload_n 0, 1) := by decide +kernel
theorem dX11_isClause_13 : decode cX11_isClause 13 = .ok (.bipush 99, 2) := by decide +kernel
theorem dX11_isClause_15 : decode cX11_isClause 15 = .ok (.if_icmp .eq 21, 3) := by decide +kernel
theorem dX11_isClause_18 : decode cX11_isClause 18 = .ok (.iload_n 0, 1) := by decide +kernel
theorem dX11_isClause_19 : decode cX11_isClause 19 = .ok (.bipush 110, 2) := by decide +kernel
theorem dX11_isClause_21 : decode cX11_isClause 21 = .ok (.if_icmp .eq 15, 3) := by decide +kernel
theorem dX11_isClause_24 : decode cX11_isClause 24 = .ok (.iload_n 0, 1) := by decide +kernel
theorem dX11_isClause_25 : decode cX11_isClause 25 = .ok (.bipush 118, 2) := by decide +kernel
theorem dX11_isClause_27 : decode cX11_isClause 27 = .ok (.if_icmp .eq 9, 3) := by decide +kernel
theorem dX11_isClause_30 : decode cX11_isClause 30 = .ok (.iload_n 0, 1) := by decide +kernel
theorem dX11_isClause_31 : decode cX11_isClause 31 = .ok (.bipush 111, 2) := by decide +kernel
theorem dX11_isClause_33 : decode cX11_isClause 33 = .ok (.if_icmp .ne 7, 3) := by decide +kernel
theorem dX11_isClause_36 : decode cX11_isClause 36 = .ok (.iconst 1, 1) := by decide +kernel
theorem dX11_isClause_37 : decode cX11_isClause 37 = .ok (.goto 4, 3) := by decide +kernel
theorem dX11_isClause_40 : decode cX11_isClause 40 = .ok (.iconst 0, 1) := by decide +kernel
theorem dX11_isClause_41 : decode cX11_isClause 41 = .ok (.ireturn, 1) := by decide +kernel
theorem dX11_isDigit_0 : decode cX11_isDigit 0 = .ok (.aload_n 0, 1) := by decide +kernel
theorem dX11_isDigit_1 : decode cX11_isDigit 1 = .ok (.invokevirtual 177, 3) := by decide +kernel
theorem dX11_isDigit_4 : decode cX11_isDigit 4 = .ok (.bipush 48, 2) := by decide +kernel
theorem dX11_isDigit_6 : decode cX11_isDigit 6 = .ok (.if_icmp .lt 16, 3) := by decide +kernel
theorem dX11_isDigit_9 : decode cX11_isDigit 9 = .ok (.aload_n 0, 1) := by decide +kernel
theorem dX11_isDigit_10 : decode cX11_isDigit 10 = .ok (.invokevirtual 177, 3) := by decide +kernel
theorem dX11_isDigit_13 : decode cX11_isDigit 13 = .ok (.bipush 57, 2) := by decide +kernel
theorem dX11_isDigit_15 : decode cX11_isDigit 15 = .ok (.if_icmp .gt 7, 3) := by decide +kernel
theorem dX11_isDigit_18 : decode cX11_isDigit 18 = .ok (.iconst 1, 1) := by decide +kernel
theorem dX11_isDigit_19 : decode cX11_isDigit 19 = .ok (.goto 4, 3) := by decide +kernel
theorem dX11_isDigit_22 : decode cX11_isDigit 22 = .ok (.iconst 0, 1) := by decide +kernel
theorem dX11_isDigit_23 : decode cX11_isDigit 23 = .ok (.ireturn, 1) := by decide +kernel
theorem dX11_isSpotSign_0 : decode cX11_isSpotSign 0 = .ok (.iload_n 0, 1) := by decide +kernel
theorem dX11_isSpotSign_1 : decode cX11_isSpotSign 1 = .ok (.bipush 46, 2) := by decide +kernel
theorem dX11_isSpotSign_3 : decode cX11_isSpotSign 3 = .ok (.if_icmp .eq 21, 3) := by decide +kernel
theorem dX11_isSpotSign_6 : decode cX11_isSpotSign 6 = .ok (.iload_n 0, 1) := by decide +kernel
theorem dX11_isSpotSign_7 : decode cX11_isSpotSign 7 = .ok (.bipush 35, 2) := by decide +kernel
theorem dX11_isSpotSign_9 : decode cX11_isSpotSign 9 = .ok (.if_icmp .eq 15, 3) := by decide +kernel
theorem dX11_isSpotSign_12 : decode cX11_isSpotSign 12 = .ok (.iload_n 0, 1) := by decide +kernel
theorem dX11_isSpotSign_13 : decode cX11_isSpotSign 13 = .ok (.bipush 115, 2) := by decide +kernel
theorem dX11_isSpotSign_15 : decode cX11_isSpotSign 15 = .ok (.if_icmp .eq 9, 3) := by decide +kernel
theorem dX11_isSpotSign_18 : decode cX11_isSpotSign 18 = .ok (.iload_n 0, 1) := by decide +kernel
theorem dX11_isSpotSign_19 : decode cX11_isSpotSign 19 = .ok (.bipush 114, 2) := by decide +kernel
theorem dX11_isSpotSign_21 : decode cX11_isSpotSign 21 = .ok (.if_icmp .ne 7, 3) := by decide +kernel
theorem dX11_isSpotSign_24 : decode cX11_isSpotSign 24 = .ok (.iconst 1, 1) := by decide +kernel
theorem dX11_isSpotSign_25 : decode cX11_isSpotSign 25 = .ok (.goto 4, 3) := by decide +kernel
theorem dX11_isSpotSign_28 : decode cX11_isSpotSign 28 = .ok (.iconst 0, 1) := by decide +kernel
theorem dX11_isSpotSign_29 : decode cX11_isSpotSign 29 = .ok (.ireturn, 1) := by decide +kernel
theorem dX11_isTimes_0 : decode cX11_isTimes 0 = .ok (.iload_n 0, 1) := by decide +kernel
theorem dX11_isTimes_1 : decode cX11_isTimes 1 = .ok (.bipush 48, 2) := by decide +kernel
theorem dX11_isTimes_3 : decode cX11_isTimes 3 = .ok (.if_icmp .eq 14, 3) := by decide +kernel
theorem dX11_isTimes_6 : decode cX11_isTimes 6 = .ok (.iload_n 0, 1) := by decide +kernel
theorem dX11_isTimes_7 : decode cX11_isTimes 7 = .ok (.bipush 50, 2) := by decide +kernel
theorem dX11_isTimes_9 : decode cX11_isTimes 9 = .ok (.bipush 57, 2) := by decide +kernel
theorem dX11_isTimes_11 : decode cX11_isTimes 11 = .ok (.invokestatic 150, 3) := by decide +kernel
theorem dX11_isTimes_14 : decode cX11_isTimes 14 = .ok (.ifCond .eq 7, 3) := by decide +kernel
theorem dX11_isTimes_17 : decode cX11_isTimes 17 = .ok (.iconst 1, 1) := by decide +kernel
theorem dX11_isTimes_18 : decode cX11_isTimes 18 = .ok (.goto 4, 3) := by decide +kernel
theorem dX11_isTimes_21 : decode cX11_isTimes 21 = .ok (.iconst 0, 1) := by decide +kernel
theorem dX11_isTimes_22 : decode cX11_isTimes 22 = .ok (.ireturn, 1) := by decide +kernel
theorem dX11_notes_0 : decode cX11_notes 0 = .ok (.aload_n 0, 1) := by decide +kernel
theorem dX11_notes_1 : decode cX11_notes 1 = .ok (.getfield 35, 3) := by decide +kernel
theorem dX11_notes_4 : decode cX11_notes 4 = .ok (.aload_n 0, 1) := by decide +kernel
theorem dX11_notes_5 : decode cX11_notes 5 = .ok (.getfield 194, 3) := by decide +kernel
theorem dX11_notes_8 : decode cX11_notes 8 = .ok (.ldc 197, 2) := by decide +kernel
theorem dX11_notes_10 : decode cX11_notes 10 = .ok (.iload_n 1, 1) := by decide +kernel
theorem dX11_notes_11 : decode cX11_notes 11 = .ok (.imul, 1) := by decide +kernel
theorem dX11_notes_12 : decode cX11_notes 12 = .ok (.iload_n 2, 1) := by decide +kernel
theorem dX11_notes_13 : decode cX11_notes 13 = .ok (.iadd, 1) := by decide +kernel
theorem dX11_notes_14 : decode cX11_notes 14 = .ok (.iastore, 1) := by decide +kernel
theorem dX11_notes_15 : decode cX11_notes 15 = .ok (.aload_n 0, 1) := by decide +kernel
theorem dX11_notes_16 : decode cX11_notes 16 = .ok (.aload_n 0, 1) := by decide +kernel
theorem dX11_notes_17 : decode cX11_notes 17 = .ok (.getfield 194, 3) := by decide +kernel
theorem dX11_notes_20 : decode cX11_notes 20 = .ok (.iconst 1, 1) := by decide +kernel
theorem dX11_notes_21 : decode cX11_notes 21 = .ok (.iadd, 1) := by decide +kernel
theorem dX11_notes_22 : decode cX11_notes 22 = .ok (.putfield 194, 3) := by decide +kernel
theorem dX11_notes_25 : decode cX11_notes 25 = .ok (.return_, 1) := by decide +kernel
theorem dX11_opens_0 : decode cX11_opens 0 = .ok (.aload_n 0, 1) := by decide +kernel
theorem dX11_opens_1 : decode cX11_opens 1 = .ok (.getfield 198, 3) := by decide +kernel
theorem dX11_opens_4 : decode cX11_opens 4 = .ok (.bipush 6, 2) := by decide +kernel
theorem dX11_opens_6 : decode cX11_opens 6 = .ok (.if_icmp .ne 13, 3) := by decide +kernel
theorem dX11_opens_9 : decode cX11_opens 9 = .ok (.aload_n 0, 1) := by decide +kernel
theorem dX11_opens_10 : decode cX11_opens 10 = .ok (.iconst 5, 1) := by decide +kernel
theorem dX11_opens_11 : decode cX11_opens 11 = .ok (.aload_n 0, 1) := by decide +kernel
theorem dX11_opens_12 : decode cX11_opens 12 = .ok (.getfield 171, 3) := by decide +kernel
theorem dX11_opens_15 : decode cX11_opens 15 = .ok (.invokevirtual 184, 3) := by decide +kernel
theorem dX11_opens_18 : decode cX11_opens 18 = .ok (.ireturn, 1) := by decide +kernel
theorem dX11_opens_19 : decode cX11_opens 19 = .ok (.aload_n 0, 1) := by decide +kernel
theorem dX11_opens_20 : decode cX11_opens 20 = .ok (.aload_n 0, 1) := by decide +kernel
theorem dX11_opens_21 : decode cX11_opens 21 = .ok (.getfield 198, 3) := by decide +kernel
theorem dX11_opens_24 : decode cX11_opens 24 = .ok (.iconst 1, 1) := by decide +kernel
theorem dX11_opens_25 : decode cX11_opens 25 = .ok (.iadd, 1) := by decide +kernel
theorem dX11_opens_26 : decode cX11_opens 26 = .ok (.putfield 198, 3) := by decide +kernel
theorem dX11_opens_29 : decode cX11_opens 29 = .ok (.aload_n 0, 1) := by decide +kernel
theorem dX11_opens_30 : decode cX11_opens 30 = .ok (.getfield 38, 3) := by decide +kernel
theorem dX11_opens_33 : decode cX11_opens 33 = .ok (.aload_n 0, 1) := by decide +kernel
theorem dX11_opens_34 : decode cX11_opens 34 = .ok (.getfield 201, 3) := by decide +kernel
theorem dX11_opens_37 : decode cX11_opens 37 = .ok (.ldc 197, 2) := by decide +kernel
theorem dX11_opens_39 : decode cX11_opens 39 = .ok (.iload_n 1, 1) := by decide +kernel
theorem dX11_opens_40 : decode cX11_opens 40 = .ok (.imul, 1) := by decide +kernel
theorem dX11_opens_41 : decode cX11_opens 41 = .ok (.iastore, 1) := by decide +kernel
theorem dX11_opens_42 : decode cX11_opens 42 = .ok (.aload_n 0, 1) := by decide +kernel
theorem dX11_opens_43 : decode cX11_opens 43 = .ok (.aload_n 0, 1) := by decide +kernel
theorem dX11_opens_44 : decode cX11_opens 44 = .ok (.getfield 201, 3) := by decide +kernel
theorem dX11_opens_47 : decode cX11_opens 47 = .ok (.iconst 1, 1) := by decide +kernel
theorem dX11_opens_48 : decode cX11_opens 48 = .ok (.iadd, 1) := by decide +kernel
theorem dX11_opens_49 : decode cX11_opens 49 = .ok (.putfield 201, 3) := by decide +kernel
theorem dX11_opens_52 : decode cX11_opens 52 = .ok (.aload_n 0, 1) := by decide +kernel
theorem dX11_opens_53 : decode cX11_opens 53 = .ok (.aload_n 0, 1) := by decide +kernel
theorem dX11_opens_54 : decode cX11_opens 54 = .ok (.getfield 171, 3) := by decide +kernel
theorem dX11_opens_57 : decode cX11_opens 57 = .ok (.iconst 1, 1) := by decide +kernel
theorem dX11_opens_58 : decode cX11_opens 58 = .ok (.iadd, 1) := by decide +kernel
theorem dX11_opens_59 : decode cX11_opens 59 = .ok (.putfield 171, 3) := by decide +kernel
theorem dX11_opens_62 : decode cX11_opens 62 = .ok (.iconst 1, 1) := by decide +kernel
theorem dX11_opens_63 : decode cX11_opens 63 = .ok (.ireturn, 1) := by decide +kernel
theorem dX11_readsNumber_0 : decode cX11_readsNumber 0 = .ok (.aload_n 0, 1) := by decide +kernel
theorem dX11_readsNumber_1 : decode cX11_readsNumber 1 = .ok (.getfield 171, 3) := by decide +kernel
theorem dX11_readsNumber_4 : decode cX11_readsNumber 4 = .ok (.istore_n 1, 1) := by decide +kernel
theorem dX11_readsNumber_5 : decode cX11_readsNumber 5 = .ok (.aload_n 0, 1) := by decide +kernel
theorem dX11_readsNumber_6 : decode cX11_readsNumber 6 = .ok (.iconst 0, 1) := by decide +kernel
theorem dX11_readsNumber_7 : decode cX11_readsNumber 7 = .ok (.putfield 187, 3) := by decide +kernel
theorem dX11_readsNumber_10 : decode cX11_readsNumber 10 = .ok (.aload_n 0, 1) := by decide +kernel
theorem dX11_readsNumber_11 : decode cX11_readsNumber 11 = .ok (.invokevirtual 190, 3) := by decide +kernel
theorem dX11_readsNumber_14 : decode cX11_readsNumber 14 = .ok (.ifCond .eq 55, 3) := by decide +kernel
theorem dX11_readsNumber_17 : decode cX11_readsNumber 17 = .ok (.aload_n 0, 1) := by decide +kernel
theorem dX11_readsNumber_18 : decode cX11_readsNumber 18 = .ok (.getfield 171, 3) := by decide +kernel
theorem dX11_readsNumber_21 : decode cX11_readsNumber 21 = .ok (.iload_n 1, 1) := by decide +kernel
theorem dX11_readsNumber_22 : decode cX11_readsNumber 22 = .ok (.iconst 5, 1) := by decide +kernel
theorem dX11_readsNumber_23 : decode cX11_readsNumber 23 = .ok (.iadd, 1) := by decide +kernel
theorem dX11_readsNumber_24 : decode cX11_readsNumber 24 = .ok (.if_icmp .ne 13, 3) := by decide +kernel
theorem dX11_readsNumber_27 : decode cX11_readsNumber 27 = .ok (.aload_n 0, 1) := by decide +kernel
theorem dX11_readsNumber_28 : decode cX11_readsNumber 28 = .ok (.iconst 2, 1) := by decide +kernel
theorem dX11_readsNumber_29 : decode cX11_readsNumber 29 = .ok (.aload_n 0, 1) := by decide +kernel
theorem dX11_readsNumber_30 : decode cX11_readsNumber 30 = .ok (.getfield 171, 3) := by decide +kernel
theorem dX11_readsNumber_33 : decode cX11_readsNumber 33 = .ok (.invokevirtual 184, 3) := by decide +kernel
theorem dX11_readsNumber_36 : decode cX11_readsNumber 36 = .ok (.ireturn, 1) := by decide +kernel
theorem dX11_readsNumber_37 : decode cX11_readsNumber 37 = .ok (.aload_n 0, 1) := by decide +kernel
theorem dX11_readsNumber_38 : decode cX11_readsNumber 38 = .ok (.bipush 10, 2) := by decide +kernel
theorem dX11_readsNumber_40 : decode cX11_readsNumber 40 = .ok (.aload_n 0, 1) := by decide +kernel
theorem dX11_readsNumber_41 : decode cX11_readsNumber 41 = .ok (.getfield 187, 3) := by decide +kernel
theorem dX11_readsNumber_44 : decode cX11_readsNumber 44 = .ok (.imul, 1) := by decide +kernel
theorem dX11_readsNumber_45 : decode cX11_readsNumber 45 = .ok (.aload_n 0, 1) := by decide +kernel
theorem dX11_readsNumber_46 : decode cX11_readsNumber 46 = .ok (.invokevirtual 177, 3) := by decide +kernel
theorem dX11_readsNumber_49 : decode cX11_readsNumber 49 = .ok (.iadd, 1) := by decide +kernel
theorem dX11_readsNumber_50 : decode cX11_readsNumber 50 = .ok (.bipush 48, 2) := by decide +kernel
theorem dX11_readsNumber_52 : decode cX11_readsNumber 52 = .ok (.isub, 1) := by decide +kernel
theorem dX11_readsNumber_53 : decode cX11_readsNumber 53 = .ok (.putfield 187, 3) := by decide +kernel
theorem dX11_readsNumber_56 : decode cX11_readsNumber 56 = .ok (.aload_n 0, 1) := by decide +kernel
theorem dX11_readsNumber_57 : decode cX11_readsNumber 57 = .ok (.aload_n 0, 1) := by decide +kernel
theorem dX11_readsNumber_58 : decode cX11_readsNumber 58 = .ok (.getfield 171, 3) := by decide +kernel
theorem dX11_readsNumber_61 : decode cX11_readsNumber 61 = .ok (.iconst 1, 1) := by decide +kernel
theorem dX11_readsNumber_62 : decode cX11_readsNumber 62 = .ok (.iadd, 1) := by decide +kernel
theorem dX11_readsNumber_63 : decode cX11_readsNumber 63 = .ok (.putfield 171, 3) := by decide +kernel
theorem dX11_readsNumber_66 : decode cX11_readsNumber 66 = .ok (.goto (-56), 3) := by decide +kernel
theorem dX11_readsNumber_69 : decode cX11_readsNumber 69 = .ok (.iconst 1, 1) := by decide +kernel
theorem dX11_readsNumber_70 : decode cX11_readsNumber 70 = .ok (.ireturn, 1) := by decide +kernel
theorem dX11_sumSign_0 : decode cX11_sumSign 0 = .ok (.iload_n 0, 1) := by decide +kernel
theorem dX11_sumSign_1 : decode cX11_sumSign 1 = .ok (.bipush 43, 2) := by decide +kernel
theorem dX11_sumSign_3 : decode cX11_sumSign 3 = .ok (.if_icmp .ne 7, 3) := by decide +kernel
theorem dX11_sumSign_6 : decode cX11_sumSign 6 = .ok (.iconst 2, 1) := by decide +kernel
theorem dX11_sumSign_7 : decode cX11_sumSign 7 = .ok (.goto 45, 3) := by decide +kernel
theorem dX11_sumSign_10 : decode cX11_sumSign 10 = .ok (.iload_n 0, 1) := by decide +kernel
theorem dX11_sumSign_11 : decode cX11_sumSign 11 = .ok (.bipush 45, 2) := by decide +kernel
theorem dX11_sumSign_13 : decode cX11_sumSign 13 = .ok (.if_icmp .ne 7, 3) := by decide +kernel
theorem dX11_sumSign_16 : decode cX11_sumSign 16 = .ok (.iconst 3, 1) := by decide +kernel
theorem dX11_sumSign_17 : decode cX11_sumSign 17 = .ok (.goto 35, 3) := by decide +kernel
theorem dX11_sumSign_20 : decode cX11_sumSign 20 = .ok (.iload_n 0, 1) := by decide +kernel
theorem dX11_sumSign_21 : decode cX11_sumSign 21 = .ok (.bipush 42, 2) := by decide +kernel
theorem dX11_sumSign_23 : decode cX11_sumSign 23 = .ok (.if_icmp .ne 7, 3) := by decide +kernel
theorem dX11_sumSign_26 : decode cX11_sumSign 26 = .ok (.iconst 4, 1) := by decide +kernel
theorem dX11_sumSign_27 : decode cX11_sumSign 27 = .ok (.goto 25, 3) := by decide +kernel
theorem dX11_sumSign_30 : decode cX11_sumSign 30 = .ok (.iload_n 0, 1) := by decide +kernel
theorem dX11_sumSign_31 : decode cX11_sumSign 31 = .ok (.bipush 47, 2) := by decide +kernel
theorem dX11_sumSign_33 : decode cX11_sumSign 33 = .ok (.if_icmp .ne 7, 3) := by decide +kernel
theorem dX11_sumSign_36 : decode cX11_sumSign 36 = .ok (.iconst 5, 1) := by decide +kernel
theorem dX11_sumSign_37 : decode cX11_sumSign 37 = .ok (.goto 15, 3) := by decide +kernel
theorem dX11_sumSign_40 : decode cX11_sumSign 40 = .ok (.iload_n 0, 1) := by decide +kernel
theorem dX11_sumSign_41 : decode cX11_sumSign 41 = .ok (.bipush 37, 2) := by decide +kernel
theorem dX11_sumSign_43 : decode cX11_sumSign 43 = .ok (.if_icmp .ne 8, 3) := by decide +kernel
theorem dX11_sumSign_46 : decode cX11_sumSign 46 = .ok (.bipush 6, 2) := by decide +kernel
theorem dX11_sumSign_48 : decode cX11_sumSign 48 = .ok (.goto 4, 3) := by decide +kernel
theorem dX11_sumSign_51 : decode cX11_sumSign 51 = .ok (.iconst (-1), 1) := by decide +kernel
theorem dX11_sumSign_52 : decode cX11_sumSign 52 = .ok (.ireturn, 1) := by decide +kernel
theorem dX11_takes_0 : decode cX11_takes 0 = .ok (.aload_n 0, 1) := by decide +kernel
theorem dX11_takes_1 : decode cX11_takes 1 = .ok (.invokevirtual 177, 3) := by decide +kernel
theorem dX11_takes_4 : decode cX11_takes 4 = .ok (.iload_n 1, 1) := by decide +kernel
theorem dX11_takes_5 : decode cX11_takes 5 = .ok (.if_icmp .eq 13, 3) := by decide +kernel
theorem dX11_takes_8 : decode cX11_takes 8 = .ok (.aload_n 0, 1) := by decide +kernel
theorem dX11_takes_9 : decode cX11_takes 9 = .ok (.iconst 1, 1) := by decide +kernel
theorem dX11_takes_10 : decode cX11_takes 10 = .ok (.aload_n 0, 1) := by decide +kernel
theorem dX11_takes_11 : decode cX11_takes 11 = .ok (.getfield 171, 3) := by decide +kernel
theorem dX11_takes_14 : decode cX11_takes 14 = .ok (.invokevirtual 184, 3) := by decide +kernel
theorem dX11_takes_17 : decode cX11_takes 17 = .ok (.ireturn, 1) := by decide +kernel
theorem dX11_takes_18 : decode cX11_takes 18 = .ok (.aload_n 0, 1) := by decide +kernel
theorem dX11_takes_19 : decode cX11_takes 19 = .ok (.aload_n 0, 1) := by decide +kernel
theorem dX11_takes_20 : decode cX11_takes 20 = .ok (.getfield 171, 3) := by decide +kernel
theorem dX11_takes_23 : decode cX11_takes 23 = .ok (.iconst 1, 1) := by decide +kernel
theorem dX11_takes_24 : decode cX11_takes 24 = .ok (.iadd, 1) := by decide +kernel
theorem dX11_takes_25 : decode cX11_takes 25 = .ok (.putfield 171, 3) := by decide +kernel
theorem dX11_takes_28 : decode cX11_takes 28 = .ok (.iconst 1, 1) := by decide +kernel
theorem dX11_takes_29 : decode cX11_takes 29 = .ok (.ireturn, 1) := by decide +kernel
theorem dX11_waitTop_0 : decode cX11_waitTop 0 = .ok (.aload_n 0, 1) := by decide +kernel
theorem dX11_waitTop_1 : decode cX11_waitTop 1 = .ok (.getfield 201, 3) := by decide +kernel
theorem dX11_waitTop_4 : decode cX11_waitTop 4 = .ok (.ifCond .ne 7, 3) := by decide +kernel
theorem dX11_waitTop_7 : decode cX11_waitTop 7 = .ok (.iconst (-1), 1) := by decide +kernel
theorem dX11_waitTop_8 : decode cX11_waitTop 8 = .ok (.goto 17, 3) := by decide +kernel
theorem dX11_waitTop_11 : decode cX11_waitTop 11 = .ok (.aload_n 0, 1) := by decide +kernel
theorem dX11_waitTop_12 : decode cX11_waitTop 12 = .ok (.getfield 38, 3) := by decide +kernel
theorem dX11_waitTop_15 : decode cX11_waitTop 15 = .ok (.aload_n 0, 1) := by decide +kernel
theorem dX11_waitTop_16 : decode cX11_waitTop 16 = .ok (.getfield 201, 3) := by decide +kernel
theorem dX11_waitTop_19 : decode cX11_waitTop 19 = .ok (.iconst 1, 1) := by decide +kernel
theorem dX11_waitTop_20 : decode cX11_waitTop 20 = .ok (.isub, 1) := by decide +kernel
theorem dX11_waitTop_21 : decode cX11_waitTop 21 = .ok (.iaload, 1) := by decide +kernel
theorem dX11_waitTop_22 : decode cX11_waitTop 22 = .ok (.ldc 197, 2) := by decide +kernel
theorem dX11_waitTop_24 : decode cX11_waitTop 24 = .ok (.idiv, 1) := by decide +kernel
theorem dX11_waitTop_25 : decode cX11_waitTop 25 = .ok (.ireturn, 1) := by decide +kernel
theorem dX11_wayOf_0 : decode cX11_wayOf 0 = .ok (.iload_n 0, 1) := by decide +kernel
theorem dX11_wayOf_1 : decode cX11_wayOf 1 = .ok (.lookupswitch 63 #[(46, 60), (101, 53), (110, 51), (115, 55), (119, 57)], 51) := by decide +kernel
theorem dX11_wayOf_52 : decode cX11_wayOf 52 = .ok (.iconst 0, 1) := by decide +kernel
theorem dX11_wayOf_53 : decode cX11_wayOf 53 = .ok (.ireturn, 1) := by decide +kernel
theorem dX11_wayOf_54 : decode cX11_wayOf 54 = .ok (.iconst 2, 1) := by decide +kernel
theorem dX11_wayOf_55 : decode cX11_wayOf 55 = .ok (.ireturn, 1) := by decide +kernel
theorem dX11_wayOf_56 : decode cX11_wayOf 56 = .ok (.iconst 4, 1) := by decide +kernel
theorem dX11_wayOf_57 : decode cX11_wayOf 57 = .ok (.ireturn, 1) := by decide +kernel
theorem dX11_wayOf_58 : decode cX11_wayOf 58 = .ok (.bipush 6, 2) := by decide +kernel
theorem dX11_wayOf_60 : decode cX11_wayOf 60 = .ok (.ireturn, 1) := by decide +kernel
theorem dX11_wayOf_61 : decode cX11_wayOf 61 = .ok (.bipush 8, 2) := by decide +kernel
theorem dX11_wayOf_63 : decode cX11_wayOf 63 = .ok (.ireturn, 1) := by decide +kernel
theorem dX11_wayOf_64 : decode cX11_wayOf 64 = .ok (.iconst (-1), 1) := by decide +kernel
theorem dX11_wayOf_65 : decode cX11_wayOf 65 = .ok (.ireturn, 1) := by decide +kernel
theorem dX11_wrongAt_0 : decode cX11_wrongAt 0 = .ok (.aload_n 0, 1) := by decide +kernel
theorem dX11_wrongAt_1 : decode cX11_wrongAt 1 = .ok (.sipush (-1000), 3) := by decide +kernel
theorem dX11_wrongAt_4 : decode cX11_wrongAt 4 = .ok (.iload_n 1, 1) := by decide +kernel
theorem dX11_wrongAt_5 : decode cX11_wrongAt 5 = .ok (.imul, 1) := by decide +kernel
theorem dX11_wrongAt_6 : decode cX11_wrongAt 6 = .ok (.iload_n 2, 1) := by decide +kernel
theorem dX11_wrongAt_7 : decode cX11_wrongAt 7 = .ok (.isub, 1) := by decide +kernel
theorem dX11_wrongAt_8 : decode cX11_wrongAt 8 = .ok (.putfield 181, 3) := by decide +kernel
theorem dX11_wrongAt_11 : decode cX11_wrongAt 11 = .ok (.iconst 0, 1) := by decide +kernel
theorem dX11_wrongAt_12 : decode cX11_wrongAt 12 = .ok (.ireturn, 1) := by decide +kernel
