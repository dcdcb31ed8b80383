theorem st_X11_12 (h0 : Nat) (σ : xS) (k : Nat) (a : Int) : xobj h0 (xU σ k 12 a) k 11 = (xobj h0 σ k 11).set 12 (.int (xJ a)) := by simp [xobj, xU]
theorem ln_X11_12 (h0 : Nat) (σ : xS) (k : Nat) : 12 < (xobj h0 σ k 11).length := by simp [xobj]
theorem st_X11_13 (h0 : Nat) (σ : xS) (k : Nat) (a : Int) : xobj h0 (xU σ k 13 a) k 11 = (xobj h0 σ k 11).set 13 (.int (xJ a)) := by simp [xobj, xU]
theorem ln_X11_13 (h0 : Nat) (σ : xS) (k : Nat) : 13 < (xobj h0 σ k 11).length := by simp [xobj]
theorem st_X11_15 (h0 : Nat) (σ : xS) (k : Nat) (a : Int) : xobj h0 (xU σ k 15 a) k 11 = (xobj h0 σ k 11).set 15 (.int (xJ a)) := by simp [xobj, xU]
theorem ln_X11_15 (h0 : Nat) (σ : xS) (k : Nat) : 15 < (xobj h0 σ k 11).length := by simp [xobj]
theorem cf_X11_isDigit : xCF yX11_isDigit cX11_isDigit 1 (some .boolean) 0 := ⟨xq 1486 (by decide +kernel) rfl, xq 179 (by decide +kernel) rfl, by decide +kernel⟩
theorem wq119 : Cond.selects yX11_isDigit.cls yX11_isDigit yX11_isDigit ∈ xTB := xq 119 (by decide +kernel) rfl
theorem wq1197 : Cond.fieldLink "ShadowCourtModel" (187) "ShadowCourtModel" "number0" "I" ∈ xTB := xq 1197 (by decide +kernel) rfl
theorem wq1198 : Cond.fieldLink "ShadowCourtModel" (198) "ShadowCourtModel" "open" "I" ∈ xTB := xq 1198 (by decide +kernel) rfl
theorem wq1200 : Cond.fieldLink "ShadowCourtModel" (201) "ShadowCourtModel" "waiting" "I" ∈ xTB := xq 1200 (by decide +kernel) rfl
theorem wq1483 : Cond.methodLink "ShadowCourtModel" (190) yX11_isDigit ∈ xTB := xq 1483 (by decide +kernel) rfl
theorem wq1485 : Cond.instanceMethod yX11_isDigit ∈ xTB := xq 1485 (by decide +kernel) rfl
theorem dX11_factOf_0 : decode cX11_factOf 0 = .ok (.iload_n 0, 1) := by decide +kernel
theorem dX11_factOf_1 : decode cX11_factOf 1 = .ok (.tableswitch 118 98 119 #[113, 118, 118, 118, 109, 118, 105, 118, 107, 118, 118, 118, 118, 118, 118, 118, 118, 115, 103, 118, 118, 111], 103) := by decide +kernel
theorem dX11_factOf_104 : decode cX11_factOf 104 = .ok (.iconst 0, 1) := by decide +kernel
theorem dX11_factOf_105 : decode cX11_factOf 105 = .ok (.ireturn, 1) := by decide +kernel
theorem dX11_factOf_106 : decode cX11_factOf 106 = .ok (.iconst 1, 1) := by decide +kernel
theorem dX11_factOf_107 : decode cX11_factOf 107 = .ok (.ireturn, 1) := by decide +kernel
theorem dX11_factOf_108 : decode cX11_factOf 108 = .ok (.iconst 2, 1) := by decide +kernel
theorem dX11_factOf_109 : decode cX11_factOf 109 = .ok (.ireturn, 1) := by decide +kernel
theorem dX11_factOf_110 : decode cX11_factOf 110 = .ok (.iconst 3, 1) := by decide +kernel
theorem dX11_factOf_111 : decode cX11_factOf 111 = .ok (.ireturn, 1) := by decide +kernel
theorem dX11_factOf_112 : decode cX11_factOf 112 = .ok (.iconst 4, 1) := by decide +kernel
theorem dX11_factOf_113 : decode cX11_factOf 113 = .ok (.ireturn, 1) := by decide +kernel
theorem dX11_factOf_114 : decode cX11_factOf 114 = .ok (.iconst 5, 1) := by decide +kernel
theorem dX11_factOf_115 : decode cX11_factOf 115 = .ok (.ireturn, 1) := by decide +kernel
theorem dX11_factOf_116 : decode cX11_factOf 116 = .ok (.bipush 6, 2) := by decide +kernel
theorem dX11_factOf_118 : decode cX11_factOf 118 = .ok (.ireturn, 1) := by decide +kernel
theorem dX11_factOf_119 : decode cX11_factOf 119 = .ok (.iconst (-1), 1) := by decide +kernel
theorem dX11_factOf_120 : decode cX11_factOf 120 = .ok (.ireturn, 1) := by decide +kernel
theorem dX11_isClause_0 : decode cX11_isClause 0 = .ok (.iload_n 0, 1) := by decide +kernel
theorem dX11_isClause_1 : decode cX11_isClause 1 = .ok (.bipush 97, 2) := by decide +kernel
theorem dX11_isClause_3 : decode cX11_isClause 3 = .ok (.if_icmp .eq 33, 3) := by decide +kernel
theorem dX11_isClause_6 : decode cX11_isClause 6 = .ok (.iload_n 0, 1) := by decide +kernel
theorem dX11_isClause_7 : decode cX11_isClause 7 = .ok (.bipush 108, 2) := by decide +kernel
theorem dX11_isClause_9 : decode cX11_isClause 9 = .ok (.if_icmp .eq 27, 3) := by decide +kernel
theorem dX11_isClause_12 : decode cX11_isClause 12 = .ok (.iload_n 0, 1) := by decide +kernel
theorem dX11_isClause_13 : decode cX11_isClause 13 = .ok (.bipush 99, 2) := by decide +kernel
theorem dX11_isClause_15 : decode cX11_isClause 15 = .ok (.if_icmp .eq 21, 3) := by decide +kernel
theorem dX11_isClause_18 : decode cX11_isClause 18 = .ok (.iload_n 0, 1) := by decide +kernel
theorem dX11_isClause_19 : decode cX11_isClause 19 = .ok (.bipush 110, 2) := by decide +kernel
theorem dX11_isClause_21 : decode cX11_isClause 21 = .ok (.if_icmp .eq 15, 3) := by decide +kernel
theorem dX11_isClause_24 : decode cX11_isClause 24 = .ok (.iload_n 0, 1) := by decide +kernel
theorem dX11_isClause_25 : decode cX11_isClause 25 = .ok (.bipush 118, 2) := by decide +kernel
theorem dX11_isClause_27 : decode cX11_isClause 27 = .ok (.if_icmp .eq 9, 3) := by decide +kernel
theorem dX11_isClause_30 : decode cX11_isClause 30 = .ok (.iload_n 0, 1) := by decide +kernel
theorem dX11_isClause_31 : decode cX11_isClause 31 = .ok (.bipush 111, 2) := by decide +kernel
theorem dX11_isClause_33 : decode cX11_isClause 33 = .ok (.if_icmp .ne 7, 3) := by decide +kernel
theorem dX11_isClause_36 : decode cX11_isClause 36 = .ok (.iconst 1, 1) := by decide +kernel
theorem dX11_isClause_37 : decode cX11_isClause 37 = .ok (.goto 4, 3) := by decide +kernel
theorem dX11_isClause_40 : decode cX11_isClause 40 = .ok (.iconst 0, 1) := by decide +kernel
theorem dX11_isClause_41 : decode cX11_isClause 41 = .ok (.ireturn, 1) := by decide +kernel
theorem dX11_isDigit_0 : decode cX11_isDigit 0 = .ok (.aload_n 0, 1) := by decide +kernel
theorem dX11_isDigit_1 : decode cX11_isDigit 1 = .ok (.invokevirtual 177, 3) := by decide +kernel
theorem dX11_isDigit_4 : decode cX11_isDigit 4 = .ok (.bipush 48, 2) := by decide +kernel
theorem dX11_isDigit_6 : decode cX11_isDigit 6 = .ok (.if_icmp .lt 16, 3) := by decide +kernel
theorem dX11_isDigit_9 : decode cX11_isDigit 9 = .ok (.aload_n 0, 1) := by decide +kernel
theorem dX11_isDigit_10 : decode cX11_isDigit 10 = .ok (.invokevirtual 177, 3) := by decide +kernel
theorem dX11_isDigit_13 : decode cX11_isDigit 13 = .ok (.bipush 57, 2) := by decide +kernel
theorem dX11_isDigit_15 : decode cX11_isDigit 15 = .ok (.if_icmp .gt 7, 3) := by decide +kernel
theorem dX11_isDigit_18 : decode cX11_isDigit 18 = .ok (.iconst 1, 1) := by decide +kernel
theorem dX11_isDigit_19 : decode cX11_isDigit 19 = .ok (.goto 4, 3) := by decide +kernel
theorem dX11_isDigit_22 : decode cX11_isDigit 22 = .ok (.iconst 0, 1) := by decide +kernel
theorem dX11_isDigit_23 : decode cX11_isDigit 23 = .ok (.ireturn, 1) := by decide +kernel
theorem dX11_notes_0 : decode cX11_notes 0 = .ok (.aload_n 0, 1) := by decide +kernel
theorem dX11_notes_1 : decode cX11_notes 1 = .ok (.getfield 35, 3) := by decide +kernel
theorem dX11_notes_4 : decode cX11_notes 4 = .ok (.aload_n 0, 1) := by decide +kernel
theorem dX11_notes_5 : decode cX11_notes 5 = .ok (.getfield 194, 3) := by decide +kernel
theorem dX11_notes_8 : decode cX11_notes 8 = .ok (.ldc 197, 2) := by decide +kernel
theorem dX11_notes_10 : decode cX11_notes 10 = .ok (.iload_n 1, 1) := by decide +kernel
theorem dX11_notes_11 : decode cX11_notes 11 = .ok (.imul, 1) := by decide +kernel
theorem dX11_notes_12 : decode cX11_notes 12 = .ok (.iload_n 2, 1) := by decide +kernel
theorem dX11_notes_13 : decode cX11_notes 13 = .ok (.iadd, 1) := by decide +kernel
theorem dX11_notes_14 : decode cX11_notes 14 = .ok (.iastore, 1) := by decide +kernel
theorem dX11_notes_15 : decode cX11_notes 15 = .ok (.aload_n 0, 1) := by decide +kernel
theorem dX11_notes_16 : decode cX11_notes 16 = .ok (.aload_n 0, 1) := by decide +kernel
theorem dX11_notes_17 : decode cX11_notes 17 = .ok (.getfield 194, 3) := by decide +kernel
theorem dX11_notes_20 : decode cX11_notes 20 = .ok (.iconst 1, 1) := by decide +kernel
theorem dX11_notes_21 : decode cX11_notes 21 = .ok (.iadd, 1) := by decide +kernel
theorem dX11_notes_22 : decode cX11_notes 22 = .ok (.putfield 194, 3) := by decide +kernel
theorem dX11_notes_25 : decode cX11_notes 25 = .ok (.return_, 1) := by decide +kernel
theorem dX11_opens_0 : decode cX11_opens 0 = .ok (.aload_n 0, 1) := by decide +kernel
theorem dX11_opens_1 : decode cX11_opens 1 = .ok (.getfield 198, 3) := by decide +kernel
theorem dX11_opens_4 : decode cX11_opens 4 = .ok (.bipush 6, 2) := by decide +kernel
theorem dX11_opens_6 : decode cX11_opens 6 = .ok (.if_icmp .ne 13, 3) := by decide +kernel
theorem dX11_opens_9 : decode cX11_opens 9 = .ok (.aload_n 0, 1) := by decide +kernel
theorem dX11_opens_10 : decode cX11_opens 10 = .ok (.iconst 5, 1) := by decide +kernel
theorem dX11_opens_11 : decode cX11_opens 11 = .ok (.aload_n 0, 1) := by decide +kernel
theorem dX11_opens_12 : decode cX11_opens 12 = .ok (.getfield 171, 3) := by decide +kernel
theorem dX11_opens_15 : decode cX11_opens 15 = .ok (.invokevirtual 184, 3) := by decide +kernel
theorem dX11_opens_18 : decode cX11_opens 18 = .ok (.ireturn, 1) := by decide +kernel
theorem dX11_opens_19 : decode cX11_opens 19 = .ok (.aload_n 0, 1) := by decide +kernel
theorem dX11_opens_20 : decode cX11_opens 20 = .ok (.aload_n 0, 1) := by decide +kernel
theorem dX11_opens_21 : decode cX11_opens 21 = .ok (.getfield 198, 3) := by decide +kernel
theorem dX11_opens_24 : decode cX11_opens 24 = .ok (.iconst 1, 1) := by decide +kernel
theorem dX11_opens_25 : decode cX11_opens 25 = .ok (.iadd, 1) := by decide +kernel
theorem dX11_opens_26 : decode cX11_opens 26 = .ok (.putfield 198, 3) := by decide +kernel
theorem dX11_opens_29 : decode cX11_opens 29 = .ok (.aload_n 0, 1) := by decide +kernel
theorem dX11_opens_30 : decode cX11_opens 30 = .ok (.getfield 38, 3) := by decide +kernel
theorem dX11_opens_33 : decode cX11_opens 33 = .ok (.aload_n 0, 1) := by decide +kernel
theorem dX11_opens_34 : decode cX11_opens 34 = .ok (.getfield 201, 3) := by decide +kernel
theorem dX11_opens_37 : decode cX11_opens 37 = .ok (.ldc 197, 2) := by decide +kernel
theorem dX11_opens_39 : decode cX11_opens 39 = .ok (.iload_n 1, 1) := by decide +kernel
theorem dX11_opens_40 : decode cX11_opens 40 = .ok (.imul, 1) := by decide +kernel
theorem dX11_opens_41 : decode cX11_opens 41 = .ok (.iastore, 1) := by decide +kernel
theorem dX11_opens_42 : decode cX11_opens 42 = .ok (.aload_n 0, 1) := by decide +kernel
theorem dX11_opens_43 : decode cX11_opens 43 = .ok (.aload_n 0, 1) := by decide +kernel
theorem dX11_opens_44 : decode cX11_opens 44 = .ok (.getfield 201, 3) := by decide +kernel
theorem dX11_opens_47 : decode cX11_opens 47 = .ok (.iconst 1, 1) := by decide +kernel
theorem dX11_opens_48 : decode cX11_opens 48 = .ok (.iadd, 1) := by decide +kernel
theorem dX11_opens_49 : decode cX11_opens 49 = .ok (.putfield 201, 3) := by decide +kernel
theorem dX11_opens_52 : decode cX11_opens 52 = .ok (.aload_n 0, 1) := by decide +kernel
theorem dX11_opens_53 : decode cX11_opens 53 = .ok (.aload_n 0, 1) := by decide +kernel
theorem dX11_opens_54 : decode cX11_opens 54 = .ok (.getfield 171, 3) := by decide +kernel
theorem dX11_opens_57 : decode cX11_opens 57 = .ok (.iconst 1, 1) := by decide +kernel
theorem dX11_opens_58 : decode cX11_opens 58 = .ok (.iadd, 1) := by decide +kernel
theorem dX11_opens_59 : decode cX11_opens 59 = .ok (.putfield 171, 3) := by decide +kernel
theorem dX11_opens_62 : decode cX11_opens 62 = .ok (.iconst 1, 1) := by decide +kernel
theorem dX11_opens_63 : decode cX11_opens 63 = .ok (.ireturn, 1) := by decide +kernel
theorem dX11_readsNumber_0 : decode cX11_readsNumber 0 = .ok (.aload_n 0, 1) := by decide +kernel
theorem dX11_readsNumber_1 : decode cX11_readsNumber 1 = .ok (.getfield 171, 3) := by decide +kernel
theorem dX11_readsNumber_4 : decode cX11_readsNumber 4 = .ok (.istore_n 1, 1) := by decide +kernel
theorem dX11_readsNumber_5 : decode cX11_readsNumber 5 = .ok (.aload_n 0, 1) := by decide +kernel
theorem dX11_readsNumber_6 : decode cX11_readsNumber 6 = .ok (.iconst 0, 1) := by decide +kernel
theorem dX11_readsNumber_7 : decode cX11_readsNumber 7 = .ok (.putfield 187, 3) := by decide +kernel
theorem dX11_readsNumber_10 : decode cX11_readsNumber 10 = .ok (.aload_n 0, 1) := by decide +kernel
theorem dX11_readsNumber_11 : decode cX11_readsNumber 11 = .ok (.invokevirtual 190, 3) := by decide +kernel
theorem dX11_readsNumber_14 : decode cX11_readsNumber 14 = .ok (.ifCond .eq 55, 3) := by decide +kernel
theorem dX11_readsNumber_17 : decode cX11_readsNumber 17 = .ok (.aload_n 0, 1) := by decide +kernel
theorem dX11_readsNumber_18 : decode cX11_readsNumber 18 = .ok (.getfield 171, 3) := by decide +kernel
theorem dX11_readsNumber_21 : decode cX11_readsNumber 21 = .ok (.iload_n 1, 1) := by decide +kernel
theorem dX11_readsNumber_22 : decode cX11_readsNumber 22 = .ok (.iconst 5, 1) := by decide +kernel
theorem dX11_readsNumber_23 : decode cX11_readsNumber 23 = .ok (.iadd, 1) := by decide +kernel
theorem dX11_readsNumber_24 : decode cX11_readsNumber 24 = .ok (.if_icmp .ne 13, 3) := by decide +kernel
theorem dX11_readsNumber_27 : decode cX11_readsNumber 27 = .ok (.aload_n 0, 1) := by decide +kernel
theorem dX11_readsNumber_28 : decode cX11_readsNumber 28 = .ok (.iconst 2, 1) := by decide +kernel
theorem dX11_readsNumber_29 : decode cX11_readsNumber 29 = .ok (.aload_n 0, 1) := by decide +kernel
theorem dX11_readsNumber_30 : decode cX11_readsNumber 30 = .ok (.getfield 171, 3) := by decide +kernel
theorem dX11_readsNumber_33 : decode cX11_readsNumber 33 = .ok (.invokevirtual 184, 3) := by decide +kernel
theorem dX11_readsNumber_36 : decode cX11_readsNumber 36 = .ok (.ireturn, 1) := by decide +kernel
theorem dX11_readsNumber_37 : decode cX11_readsNumber 37 = .ok (.aload_n 0, 1) := by decide +kernel
theorem dX11_readsNumber_38 : decode cX11_readsNumber 38 = .ok (.bipush 10, 2) := by decide +kernel
theorem dX11_readsNumber_40 : decode cX11_readsNumber 40 = .ok (.aload_n 0, 1) := by decide +kernel
theorem dX11_readsNumber_41 : decode cX11_readsNumber 41 = .ok (.getfield 187, 3) := by decide +kernel
theorem dX11_readsNumber_44 : decode cX11_readsNumber 44 = .ok (.imul, 1) := by decide +kernel
theorem dX11_readsNumber_45 : decode cX11_readsNumber 45 = .ok (.aload_n 0, 1) := by decide +kernel
theorem dX11_readsNumber_46 : decode cX11_readsNumber 46 = .ok (.invokevirtual 177, 3) := by decide +kernel
theorem dX11_readsNumber_49 : decode cX11_readsNumber 49 = .ok (.iadd, 1) := by decide +kernel
theorem dX11_readsNumber_50 : decode cX11_readsNumber 50 = .ok (.bipush 48, 2) := by decide +kernel
theorem dX11_readsNumber_52 : decode cX11_readsNumber 52 = .ok (.isub, 1) := by decide +kernel
theorem dX11_readsNumber_53 : decode cX11_readsNumber 53 = .ok (.putfield 187, 3) := by decide +kernel
theorem dX11_readsNumber_56 : decode cX11_readsNumber 56 = .ok (.aload_n 0, 1) := by decide +kernel
theorem dX11_readsNumber_57 : decode cX11_readsNumber 57 = .ok (.aload_n 0, 1) := by decide +kernel
theorem dX11_readsNumber_58 : decode cX11_readsNumber 58 = .ok (.getfield 171, 3) := by decide +kernel
theorem dX11_readsNumber_61 : decode cX11_readsNumber 61 = .ok (.iconst 1, 1) := by decide +kernel
theorem dX11_readsNumber_62 : decode cX11_readsNumber 62 = .ok (.iadd, 1) := by decide +kernel
theorem dX11_readsNumber_63 : decode cX11_readsNumber 63 = .ok (.putfield 171, 3) := by decide +kernel
theorem dX11_readsNumber_66 : decode cX11_readsNumber 66 = .ok (.goto (-56), 3) := by decide +kernel
theorem dX11_readsNumber_69 : decode cX11_readsNumber 69 = .ok (.iconst 1, 1) := by decide +kernel
theorem dX11_readsNumber_70 : decode cX11_readsNumber 70 = .ok (.ireturn, 1) := by decide +kernel
theorem dX11_sumSign_0 : decode cX11_sumSign 0 = .ok (.iload_n 0, 1) := by decide +kernel
theorem dX11_sumSign_1 : decode cX11_sumSign 1 = .ok (.bipush 43, 2) := by decide +kernel
theorem dX11_sumSign_3 : decode cX11_sumSign 3 = .ok (.if_icmp .ne 7, 3) := by decide +kernel
theorem dX11_sumSign_6 : decode cX11_sumSign 6 = .ok (.iconst 2, 1) := by decide +kernel
theorem dX11_sumSign_7 : decode cX11_sumSign 7 = .ok (.goto 45, 3) := by decide +kernel
theorem dX11_sumSign_10 : decode cX11_sumSign 10 = .ok (.iload_n 0, 1) := by decide +kernel
theorem dX11_sumSign_11 : decode cX11_sumSign 11 = .ok (.bipush 45, 2) := by decide +kernel
theorem dX11_sumSign_13 : decode cX11_sumSign 13 = .ok (.if_icmp .ne 7, 3) := by decide +kernel
theorem dX11_sumSign_16 : decode cX11_sumSign 16 = .ok (.iconst 3, 1) := by decide +kernel
theorem dX11_sumSign_17 : decode cX11_sumSign 17 = .ok (.goto 35, 3) := by decide +kernel
theorem dX11_sumSign_20 : decode cX11_sumSign 20 = .ok (.iload_n 0, 1) := by decide +kernel
theorem dX11_sumSign_21 : decode cX11_sumSign 21 = .ok (.bipush 42, 2) := by decide +kernel
theorem dX11_sumSign_23 : decode cX11_sumSign 23 = .ok (.if_icmp .ne 7, 3) := by decide +kernel
theorem dX11_sumSign_26 : decode cX11_sumSign 26 = .ok (.iconst 4, 1) := by decide +kernel
theorem dX11_sumSign_27 : decode cX11_sumSign 27 = .ok (.goto 25, 3) := by decide +kernel
theorem dX11_sumSign_30 : decode cX11_sumSign 30 = .ok (.iload_n 0, 1) := by decide +kernel
theorem dX11_sumSign_31 : decode cX11_sumSign 31 = .ok (.bipush 47, 2) := by decide +kernel
theorem dX11_sumSign_33 : decode cX11_sumSign 33 = .ok (.if_icmp .ne 7, 3) := by decide +kernel
theorem dX11_sumSign_36 : decode cX11_sumSign 36 = .ok (.iconst 5, 1) := by decide +kernel
theorem dX11_sumSign_37 : decode cX11_sumSign 37 = .ok (.goto 15, 3) := by decide +kernel
theorem dX11_sumSign_40 : decode cX11_sumSign 40 = .ok (.iload_n 0, 1) := by decide +kernel
theorem dX11_sumSign_41 : decode cX11_sumSign 41 = .ok (.bipush 37, 2) := by decide +kernel
theorem dX11_sumSign_43 : decode cX11_sumSign 43 = .ok (.if_icmp .ne 8, 3) := by decide +kernel
theorem dX11_sumSign_46 : decode cX11_sumSign 46 = .ok (.bipush 6, 2) := by decide +kernel
theorem dX11_sumSign_48 : decode cX11_sumSign 48 = .ok (.goto 4, 3) := by decide +kernel
theorem dX11_sumSign_51 : decode cX11_sumSign 51 = .ok (.iconst (-1), 1) := by decide +kernel
theorem dX11_sumSign_52 : decode cX11_sumSign 52 = .ok (.ireturn, 1) := by decide +kernel
theorem dX11_waitTop_0 : decode cX11_waitTop 0 = .ok (.aload_n 0, 1) := by decide +kernel
theorem dX11_waitTop_1 : decode cX11_waitTop 1 = .ok (.getfield 201, 3) := by decide +kernel
theorem dX11_waitTop_4 : decode cX11_waitTop 4 = .ok (.ifCond .ne 7, 3) := by decide +kernel
theorem dX11_waitTop_7 : decode cX11_waitTop 7 = .ok (.iconst (-1), 1) := by decide +kernel
theorem dX11_waitTop_8 : decode cX11_waitTop 8 = .ok (.goto 17, 3) := by decide +kernel
theorem dX11_waitTop_11 : decode cX11_waitTop 11 = .ok (.aload_n 0, 1) := by decide +kernel
theorem dX11_waitTop_12 : decode cX11_waitTop 12 = .ok (.getfield 38, 3) := by decide +kernel
theorem dX11_waitTop_15 : decode cX11_waitTop 15 = .ok (.aload_n 0, 1) := by decide +kernel
theorem dX11_waitTop_16 : decode cX11_waitTop 16 = .ok (.getfield 201, 3) := by decide +kernel
theorem dX11_waitTop_19 : decode cX11_waitTop 19 = .ok (.iconst 1, 1) := by decide +kernel
theorem dX11_waitTop_20 : decode cX11_waitTop 20 = .ok (.isub, 1) := by decide +kernel
theorem dX11_waitTop_21 : decode cX11_waitTop 21 = .ok (.iaload, 1) := by decide +kernel
theorem dX11_waitTop_22 : decode cX11_waitTop 22 = .ok (.ldc 197, 2) := by decide +kernel
theorem dX11_waitTop_24 : decode cX11_waitTop 24 = .ok (.idiv, 1) := by decide +kernel
theorem dX11_waitTop_25 : decode cX11_waitTop 25 = .ok (.ireturn, 1) := by decide +kernel

theorem st_X11_10 (h0 : Nat) (σ : xS) (k : Nat) (a : Int) : xobj h0 (xU σ k 10 a) k 11 = (xobj h0 σ k 11).set 10 (.int (xJ a)) := by simp [xobj, xU]
theorem ln_X11_10 (h0 : Nat) (σ : xS) (k : Nat) : 10 < (xobj h0 σ k 11).length := by simp [xobj]
theorem cf_X11_isSpotSign : xCF yX11_isSpotSign cX11_isSpotSign 1 (some .boolean) 1 := ⟨xq 1395 (by decide +kernel) rfl, xq 179 (by decide +kernel) rfl, by decide +kernel⟩
theorem cf_X11_isTimes : xCF yX11_isTimes cX11_isTimes 1 (some .boolean) 1 := ⟨xq 1398 (by decide +kernel) rfl, xq 179 (by decide +kernel) rfl, by decide +kernel⟩
theorem cf_X11_readsRow : xCF yX11_readsRow cX11_readsRow 6 (some .boolean) 1 := ⟨xq 1388 (by decide +kernel) rfl, xq 179 (by decide +kernel) rfl, by decide +kernel⟩
theorem cf_X11_takes : xCF yX11_takes cX11_takes 2 (some .boolean) 1 := ⟨xq 1406 (by decide +kernel) rfl, xq 179 (by decide +kernel) rfl, by decide +kernel⟩
theorem wq105 : Cond.selects yX11_readsRow.cls yX11_readsRow yX11_readsRow ∈ xTB := xq 105 (by decide +kernel) rfl
theorem wq108 : Cond.selects yX11_takes.cls yX11_takes yX11_takes ∈ xTB := xq 108 (by decide +kernel) rfl
theorem wq1214 : Cond.fieldLink "ShadowCourtModel" (68) "ShadowCourtModel" "newKind" "[I" ∈ xTB := xq 1214 (by decide +kernel) rfl
theorem wq1385 : Cond.methodLink "ShadowCourtModel" (254) yX11_readsRow ∈ xTB := xq 1385 (by decide +kernel) rfl
theorem wq1387 : Cond.instanceMethod yX11_readsRow ∈ xTB := xq 1387 (by decide +kernel) rfl
theorem wq1393 : Cond.methodLink "ShadowCourtModel" (248) yX11_isSpotSign ∈ xTB := xq 1393 (by decide +kernel) rfl
theorem wq1394 : Cond.static yX11_isSpotSign ∈ xTB := xq 1394 (by decide +kernel) rfl
theorem wq1396 : Cond.methodLink "ShadowCourtModel" (251) yX11_isTimes ∈ xTB := xq 1396 (by decide +kernel) rfl
theorem wq1397 : Cond.static yX11_isTimes ∈ xTB := xq 1397 (by decide +kernel) rfl
theorem wq1403 : Cond.methodLink "ShadowCourtModel" (257) yX11_takes ∈ xTB := xq 1403 (by decide +kernel) rfl
theorem wq1405 : Cond.instanceMethod yX11_takes ∈ xTB := xq 1405 (by decide +kernel) rfl
theorem dX11_market_0 : decode cX11_market 0 = .ok (.iload_n 1, 1) := by decide +kernel
theorem dX11_market_1 : decode cX11_market 1 = .ok (.iconst 1, 1) := by decide +kernel
theorem dX11_market_2 : decode cX11_market 2 = .ok (.sipush 140, 3) := by decide +kernel
theorem dX11_market_5 : decode cX11_market 5 = .ok (.invokestatic 150, 3) := by decide +kernel
theorem dX11_market_8 : decode cX11_market 8 = .ok (.ifCond .eq 11, 3) := by decide +kernel
theorem dX11_market_11 : decode cX11_market 11 = .ok (.iload_n 1, 1) := by decide +kernel
theorem dX11_market_12 : decode cX11_market 12 = .ok (.aload_n 0, 1) := by decide +kernel
theorem dX11_market_13 : decode cX11_market 13 = .ok (.getfield 164, 3) := by decide +kernel
theorem dX11_market_16 : decode cX11_market 16 = .ok (.if_icmp .le 5, 3) := by decide +kernel
theorem dX11_market_19 : decode cX11_market 19 = .ok (.iconst (-1), 1) := by decide +kernel
theorem dX11_market_20 : decode cX11_market 20 = .ok (.ireturn, 1) := by decide +kernel
theorem dX11_market_21 : decode cX11_market 21 = .ok (.aload_n 0, 1) := by decide +kernel
theorem dX11_market_22 : decode cX11_market 22 = .ok (.iconst 0, 1) := by decide +kernel
theorem dX11_market_23 : decode cX11_market 23 = .ok (.putfield 171, 3) := by decide +kernel
theorem dX11_market_26 : decode cX11_market 26 = .ok (.aload_n 0, 1) := by decide +kernel
theorem dX11_market_27 : decode cX11_market 27 = .ok (.iload_n 1, 1) := by decide +kernel
theorem dX11_market_28 : decode cX11_market 28 = .ok (.putfield 174, 3) := by decide +kernel
theorem dX11_market_31 : decode cX11_market 31 = .ok (.aload_n 0, 1) := by decide +kernel
theorem dX11_market_32 : decode cX11_market 32 = .ok (.iconst 0, 1) := by decide +kernel
theorem dX11_market_33 : decode cX11_market 33 = .ok (.invokevirtual 254, 3) := by decide +kernel
theorem dX11_market_36 : decode cX11_market 36 = .ok (.istore_n 2, 1) := by decide +kernel
theorem dX11_market_37 : decode cX11_market 37 = .ok (.iconst 1, 1) := by decide +kernel
theorem dX11_market_38 : decode cX11_market 38 = .ok (.istore_n 3, 1) := by decide +kernel
theorem dX11_market_39 : decode cX11_market 39 = .ok (.iload_n 3, 1) := by decide +kernel
theorem dX11_market_40 : decode cX11_market 40 = .ok (.bipush 10, 2) := by decide +kernel
theorem dX11_market_42 : decode cX11_market 42 = .ok (.if_icmp .ge 36, 3) := by decide +kernel
theorem dX11_market_45 : decode cX11_market 45 = .ok (.iload_n 2, 1) := by decide +kernel
theorem dX11_market_46 : decode cX11_market 46 = .ok (.ifCond .eq 32, 3) := by decide +kernel
theorem dX11_market_49 : decode cX11_market 49 = .ok (.aload_n 0, 1) := by decide +kernel
theorem dX11_market_50 : decode cX11_market 50 = .ok (.bipush 47, 2) := by decide +kernel
theorem dX11_market_52 : decode cX11_market 52 = .ok (.invokevirtual 257, 3) := by decide +kernel
theorem dX11_market_55 : decode cX11_market 55 = .ok (.ifCond .eq 15, 3) := by decide +kernel
theorem dX11_market_58 : decode cX11_market 58 = .ok (.aload_n 0, 1) := by decide +kernel
theorem dX11_market_59 : decode cX11_market 59 = .ok (.iload_n 3, 1) := by decide +kernel
theorem dX11_market_60 : decode cX11_market 60 = .ok (.invokevirtual 254, 3) := by decide +kernel
theorem dX11_market_63 : decode cX11_market 63 = .ok (.ifCond .eq 7, 3) := by decide +kernel
theorem dX11_market_66 : decode cX11_market 66 = .ok (.iconst 1, 1) := by decide +kernel
theorem dX11_market_67 : decode cX11_market 67 = .ok (.goto 4, 3) := by decide +kernel
theorem dX11_market_70 : decode cX11_market 70 = .ok (.iconst 0, 1) := by decide +kernel
theorem dX11_market_71 : decode cX11_market 71 = .ok (.istore_n 2, 1) := by decide +kernel
theorem dX11_market_72 : decode cX11_market 72 = .ok (.iinc 3 1, 3) := by decide +kernel
theorem dX11_market_75 : decode cX11_market 75 = .ok (.goto (-36), 3) := by decide +kernel
theorem dX11_market_78 : decode cX11_market 78 = .ok (.iload_n 2, 1) := by decide +kernel
theorem dX11_market_79 : decode cX11_market 79 = .ok (.ifCond .eq 24, 3) := by decide +kernel
theorem dX11_market_82 : decode cX11_market 82 = .ok (.aload_n 0, 1) := by decide +kernel
theorem dX11_market_83 : decode cX11_market 83 = .ok (.getfield 171, 3) := by decide +kernel
theorem dX11_market_86 : decode cX11_market 86 = .ok (.aload_n 0, 1) := by decide +kernel
theorem dX11_market_87 : decode cX11_market 87 = .ok (.getfield 174, 3) := by decide +kernel
theorem dX11_market_90 : decode cX11_market 90 = .ok (.if_icmp .ge 13, 3) := by decide +kernel
theorem dX11_market_93 : decode cX11_market 93 = .ok (.aload_n 0, 1) := by decide +kernel
theorem dX11_market_94 : decode cX11_market 94 = .ok (.iconst 1, 1) := by decide +kernel
theorem dX11_market_95 : decode cX11_market 95 = .ok (.aload_n 0, 1) := by decide +kernel
theorem dX11_market_96 : decode cX11_market 96 = .ok (.getfield 171, 3) := by decide +kernel
theorem dX11_market_99 : decode cX11_market 99 = .ok (.invokevirtual 184, 3) := by decide +kernel
theorem dX11_market_102 : decode cX11_market 102 = .ok (.istore_n 2, 1) := by decide +kernel
theorem dX11_market_103 : decode cX11_market 103 = .ok (.aload_n 0, 1) := by decide +kernel
theorem dX11_market_104 : decode cX11_market 104 = .ok (.iconst 0, 1) := by decide +kernel
theorem dX11_market_105 : decode cX11_market 105 = .ok (.putfield 164, 3) := by decide +kernel
theorem dX11_market_108 : decode cX11_market 108 = .ok (.iload_n 2, 1) := by decide +kernel
theorem dX11_market_109 : decode cX11_market 109 = .ok (.ifCond .ne 8, 3) := by decide +kernel
theorem dX11_market_112 : decode cX11_market 112 = .ok (.aload_n 0, 1) := by decide +kernel
theorem dX11_market_113 : decode cX11_market 113 = .ok (.getfield 181, 3) := by decide +kernel
theorem dX11_market_116 : decode cX11_market 116 = .ok (.ireturn, 1) := by decide +kernel
theorem dX11_market_117 : decode cX11_market 117 = .ok (.iconst 0, 1) := by decide +kernel
theorem dX11_market_118 : decode cX11_market 118 = .ok (.istore_n 3, 1) := by decide +kernel
theorem dX11_market_119 : decode cX11_market 119 = .ok (.iconst 0, 1) := by decide +kernel
theorem dX11_market_120 : decode cX11_market 120 = .ok (.istore 4, 2) := by decide +kernel
theorem dX11_market_122 : decode cX11_market 122 = .ok (.iload 4, 2) := by decide +kernel
theorem dX11_market_124 : decode cX11_market 124 = .ok (.bipush 100, 2) := by decide +kernel
theorem dX11_market_126 : decode cX11_market 126 = .ok (.if_icmp .ge 41, 3) := by decide +kernel
theorem dX11_market_129 : decode cX11_market 129 = .ok (.aload_n 0, 1) := by decide +kernel
theorem dX11_market_130 : decode cX11_market 130 = .ok (.getfield 19, 3) := by decide +kernel
theorem dX11_market_133 : decode cX11_market 133 = .ok (.iload 4, 2) := by decide +kernel
theorem dX11_market_135 : decode cX11_market 135 = .ok (.aload_n 0, 1) := by decide +kernel
theorem dX11_market_136 : decode cX11_market 136 = .ok (.getfield 68, 3) := by decide +kernel
theorem dX11_market_139 : decode cX11_market 139 = .ok (.iload 4, 2) := by decide +kernel
theorem dX11_market_141 : decode cX11_market 141 = .ok (.iaload, 1) := by decide +kernel
theorem dX11_market_142 : decode cX11_market 142 = .ok (.iastore, 1) := by decide +kernel
theorem dX11_market_143 : decode cX11_market 143 = .ok (.iload_n 3, 1) := by decide +kernel
theorem dX11_market_144 : decode cX11_market 144 = .ok (.aload_n 0, 1) := by decide +kernel
theorem dX11_market_145 : decode cX11_market 145 = .ok (.getfield 19, 3) := by decide +kernel
theorem dX11_market_148 : decode cX11_market 148 = .ok (.iload 4, 2) := by decide +kernel
theorem dX11_market_150 : decode cX11_market 150 = .ok (.iaload, 1) := by decide +kernel
theorem dX11_market_151 : decode cX11_market 151 = .ok (.ifCond .ne 7, 3) := by decide +kernel
theorem dX11_market_154 : decode cX11_market 154 = .ok (.iconst 0, 1) := by decide +kernel
theorem dX11_market_155 : decode cX11_market 155 = .ok (.goto 4, 3) := by decide +kernel
theorem dX11_market_158 : decode cX11_market 158 = .ok (.iconst 1, 1) := by decide +kernel
theorem dX11_market_159 : decode cX11_market 159 = .ok (.iadd, 1) := by decide +kernel
theorem dX11_market_160 : decode cX11_market 160 = .ok (.istore_n 3, 1) := by decide +kernel
theorem dX11_market_161 : decode cX11_market 161 = .ok (.iinc 4 1, 3) := by decide +kernel
theorem dX11_market_164 : decode cX11_market 164 = .ok (.goto (-42), 3) := by decide +kernel
theorem dX11_market_167 : decode cX11_market 167 = .ok (.iconst 0, 1) := by decide +kernel
theorem dX11_market_168 : decode cX11_market 168 = .ok (.istore 4, 2) := by decide +kernel
theorem dX11_market_170 : decode cX11_market 170 = .ok (.iload 4, 2) := by decide +kernel
theorem dX11_market_172 : decode cX11_market 172 = .ok (.iconst 2, 1) := by decide +kernel
theorem dX11_market_173 : decode cX11_market 173 = .ok (.if_icmp .ge 55, 3) := by decide +kernel
theorem dX11_market_176 : decode cX11_market 176 = .ok (.aload_n 0, 1) := by decide +kernel
theorem dX11_market_177 : decode cX11_market 177 = .ok (.iload 4, 2) := by decide +kernel
theorem dX11_market_179 : decode cX11_market 179 = .ok (.invokevirtual 260, 3) := by decide +kernel
theorem dX11_market_182 : decode cX11_market 182 = .ok (.ifCond .eq 40, 3) := by decide +kernel
theorem dX11_market_185 : decode cX11_market 185 = .ok (.aload_n 0, 1) := by decide +kernel
theorem dX11_market_186 : decode cX11_market 186 = .ok (.aload_n 0, 1) := by decide +kernel
theorem dX11_market_187 : decode cX11_market 187 = .ok (.getfield 7, 3) := by decide +kernel
theorem dX11_market_190 : decode cX11_market 190 = .ok (.iconst 0, 1) := by decide +kernel
theorem dX11_market_191 : decode cX11_market 191 = .ok (.iload 4, 2) := by decide +kernel
theorem dX11_market_193 : decode cX11_market 193 = .ok (.iadd, 1) := by decide +kernel
theorem dX11_market_194 : decode cX11_market 194 = .ok (.iaload, 1) := by decide +kernel
theorem dX11_market_195 : decode cX11_market 195 = .ok (.invokevirtual 263, 3) := by decide +kernel
theorem dX11_market_198 : decode cX11_market 198 = .ok (.ifCond .ne 24, 3) := by decide +kernel
theorem dX11_market_201 : decode cX11_market 201 = .ok (.aload_n 0, 1) := by decide +kernel
theorem dX11_market_202 : decode cX11_market 202 = .ok (.getfield 7, 3) := by decide +kernel
theorem dX11_market_205 : decode cX11_market 205 = .ok (.bipush 34, 2) := by decide +kernel
theorem dX11_market_207 : decode cX11_market 207 = .ok (.aload_n 0, 1) := by decide +kernel
theorem dX11_market_208 : decode cX11_market 208 = .ok (.getfield 7, 3) := by decide +kernel
theorem dX11_market_211 : decode cX11_market 211 = .ok (.bipush 34, 2) := by decide +kernel
theorem dX11_market_213 : decode cX11_market 213 = .ok (.iaload, 1) := by decide +kernel
theorem dX11_market_214 : decode cX11_market 214 = .ok (.iconst 1, 1) := by decide +kernel
theorem dX11_market_215 : decode cX11_market 215 = .ok (.iload 4, 2) := by decide +kernel
theorem dX11_market_217 : decode cX11_market 217 = .ok (.ishl, 1) := by decide +kernel
theorem dX11_market_218 : decode cX11_market 218 = .ok (.iconst (-1), 1) := by decide +kernel
theorem dX11_market_219 : decode cX11_market 219 = .ok (.ixor, 1) := by decide +kernel
theorem dX11_market_220 : decode cX11_market 220 = .ok (.iand, 1) := by decide +kernel
theorem dX11_market_221 : decode cX11_market 221 = .ok (.iastore, 1) := by decide +kernel
theorem dX11_market_222 : decode cX11_market 222 = .ok (.iinc 4 1, 3) := by decide +kernel
theorem dX11_market_225 : decode cX11_market 225 = .ok (.goto (-55), 3) := by decide +kernel
theorem dX11_market_228 : decode cX11_market 228 = .ok (.iconst 0, 1) := by decide +kernel
theorem dX11_market_229 : decode cX11_market 229 = .ok (.istore 4, 2) := by decide +kernel
theorem dX11_market_231 : decode cX11_market 231 = .ok (.iload 4, 2) := by decide +kernel
theorem dX11_market_233 : decode cX11_market 233 = .ok (.bipush 10, 2) := by decide +kernel
theorem dX11_market_235 : decode cX11_market 235 = .ok (.if_icmp .ge 55, 3) := by decide +kernel
theorem dX11_market_238 : decode cX11_market 238 = .ok (.aload_n 0, 1) := by decide +kernel
theorem dX11_market_239 : decode cX11_market 239 = .ok (.iload 4, 2) := by decide +kernel
theorem dX11_market_241 : decode cX11_market 241 = .ok (.invokevirtual 146, 3) := by decide +kernel
theorem dX11_market_244 : decode cX11_market 244 = .ok (.ifCond .eq 40, 3) := by decide +kernel
theorem dX11_market_247 : decode cX11_market 247 = .ok (.aload_n 0, 1) := by decide +kernel
theorem dX11_market_248 : decode cX11_market 248 = .ok (.aload_n 0, 1) := by decide +kernel
theorem dX11_market_249 : decode cX11_market 249 = .ok (.getfield 7, 3) := by decide +kernel
theorem dX11_market_252 : decode cX11_market 252 = .ok (.iconst 4, 1) := by decide +kernel
theorem dX11_market_253 : decode cX11_market 253 = .ok (.iload 4, 2) := by decide +kernel
theorem dX11_market_255 : decode cX11_market 255 = .ok (.iadd, 1) := by decide +kernel
theorem dX11_market_256 : decode cX11_market 256 = .ok (.iaload, 1) := by decide +kernel
theorem dX11_market_257 : decode cX11_market 257 = .ok (.invokevirtual 263, 3) := by decide +kernel
theorem dX11_market_260 : decode cX11_market 260 = .ok (.ifCond .ne 24, 3) := by decide +kernel
theorem dX11_market_263 : decode cX11_market 263 = .ok (.aload_n 0, 1) := by decide +kernel
theorem dX11_market_264 : decode cX11_market 264 = .ok (.getfield 7, 3) := by decide +kernel
theorem dX11_market_267 : decode cX11_market 267 = .ok (.bipush 35, 2) := by decide +kernel
theorem dX11_market_269 : decode cX11_market 269 = .ok (.aload_n 0, 1) := by decide +kernel
theorem dX11_market_270 : decode cX11_market 270 = .ok (.getfield 7, 3) := by decide +kernel
theorem dX11_market_273 : decode cX11_market 273 = .ok (.bipush 35, 2) := by decide +kernel
theorem dX11_market_275 : decode cX11_market 275 = .ok (.iaload, 1) := by decide +kernel
theorem dX11_market_276 : decode cX11_market 276 = .ok (.iconst 1, 1) := by decide +kernel
theorem dX11_market_277 : decode cX11_market 277 = .ok (.iload 4, 2) := by decide +kernel
theorem dX11_market_279 : decode cX11_market 279 = .ok (.ishl, 1) := by decide +kernel
theorem dX11_market_280 : decode cX11_market 280 = .ok (.iconst (-1), 1) := by decide +kernel
theorem dX11_market_281 : decode cX11_market 281 = .ok (.ixor, 1) := by decide +kernel
theorem dX11_market_282 : decode cX11_market 282 = .ok (.iand, 1) := by decide +kernel
theorem dX11_market_283 : decode cX11_market 283 = .ok (.iastore, 1) := by decide +kernel
theorem dX11_market_284 : decode cX11_market 284 = .ok (.iinc 4 1, 3) := by decide +kernel
theorem dX11_market_287 : decode cX11_market 287 = .ok (.goto (-56), 3) := by decide +kernel
theorem dX11_market_290 : decode cX11_market 290 = .ok (.aload_n 0, 1) := by decide +kernel
theorem dX11_market_291 : decode cX11_market 291 = .ok (.iconst 0, 1) := by decide +kernel
theorem dX11_market_292 : decode cX11_market 292 = .ok (.putfield 266, 3) := by decide +kernel
theorem dX11_market_295 : decode cX11_market 295 = .ok (.iconst 0, 1) := by decide +kernel
theorem dX11_market_296 : decode cX11_market 296 = .ok (.istore 4, 2) := by decide +kernel
theorem dX11_market_298 : decode cX11_market 298 = .ok (.iload 4, 2) := by decide +kernel
theorem dX11_market_300 : decode cX11_market 300 = .ok (.iconst 4, 1) := by decide +kernel
theorem dX11_market_301 : decode cX11_market 301 = .ok (.if_icmp .ge 42, 3) := by decide +kernel
theorem dX11_market_304 : decode cX11_market 304 = .ok (.aload_n 0, 1) := by decide +kernel
theorem dX11_market_305 : decode cX11_market 305 = .ok (.getfield 22, 3) := by decide +kernel
theorem dX11_market_308 : decode cX11_market 308 = .ok (.iload 4, 2) := by decide +kernel
theorem dX11_market_310 : decode cX11_market 310 = .ok (.iaload, 1) := by decide +kernel
theorem dX11_market_311 : decode cX11_market 311 = .ok (.iconst (-1), 1) := by decide +kernel
theorem dX11_market_312 : decode cX11_market 312 = .ok (.if_icmp .eq 25, 3) := by decide +kernel
theorem dX11_market_315 : decode cX11_market 315 = .ok (.aload_n 0, 1) := by decide +kernel
theorem dX11_market_316 : decode cX11_market 316 = .ok (.aload_n 0, 1) := by decide +kernel
theorem dX11_market_317 : decode cX11_market 317 = .ok (.getfield 22, 3) := by decide +kernel
theorem dX11_market_320 : decode cX11_market 320 = .ok (.iload 4, 2) := by decide +kernel
theorem dX11_market_322 : decode cX11_market 322 = .ok (.iaload, 1) := by decide +kernel
theorem dX11_market_323 : decode cX11_market 323 = .ok (.invokevirtual 263, 3) := by decide +kernel
theorem dX11_market_326 : decode cX11_market 326 = .ok (.ifCond .ne 11, 3) := by decide +kernel
theorem dX11_market_329 : decode cX11_market 329 = .ok (.aload_n 0, 1) := by decide +kernel
theorem dX11_market_330 : decode cX11_market 330 = .ok (.getfield 22, 3) := by decide +kernel
theorem dX11_market_333 : decode cX11_market 333 = .ok (.iload 4, 2) := by decide +kernel
theorem dX11_market_335 : decode cX11_market 335 = .ok (.iconst (-1), 1) := by decide +kernel
theorem dX11_market_336 : decode cX11_market 336 = .ok (.iastore, 1) := by decide +kernel
theorem dX11_market_337 : decode cX11_market 337 = .ok (.iinc 4 1, 3) := by decide +kernel
theorem dX11_market_340 : decode cX11_market 340 = .ok (.goto (-42), 3) := by decide +kernel
theorem dX11_market_343 : decode cX11_market 343 = .ok (.iload_n 3, 1) := by decide +kernel
theorem dX11_market_344 : decode cX11_market 344 = .ok (.ireturn, 1) := by decide +kernel
theorem dX11_readsRow_0 : decode cX11_readsRow 0 = .ok (.iconst 0, 1) := by decide +kernel
theorem dX11_readsRow_1 : decode cX11_readsRow 1 = .ok (.istore_n 2, 1) := by decide +kernel
theorem dX11_readsRow_2 : decode cX11_readsRow 2 = .ok (.iload_n 2, 1) := by decide +kernel
theorem dX11_readsRow_3 : decode cX11_readsRow 3 = .ok (.bipush 10, 2) := by decide +kernel
theorem dX11_readsRow_5 : decode cX11_readsRow 5 = .ok (.if_icmp .ge 197, 3) := by decide +kernel
theorem dX11_readsRow_8 : decode cX11_readsRow 8 = .ok (.aload_n 0, 1) := by decide +kernel
theorem dX11_readsRow_9 : decode cX11_readsRow 9 = .ok (.invokevirtual 177, 3) := by decide +kernel
theorem dX11_readsRow_12 : decode cX11_readsRow 12 = .ok (.istore_n 3, 1) := by decide +kernel
theorem dX11_readsRow_13 : decode cX11_readsRow 13 = .ok (.iload_n 3, 1) := by decide +kernel
theorem dX11_readsRow_14 : decode cX11_readsRow 14 = .ok (.invokestatic 248, 3) := by decide +kernel
theorem dX11_readsRow_17 : decode cX11_readsRow 17 = .ok (.ifCond .ne 20, 3) := by decide +kernel
theorem dX11_readsRow_20 : decode cX11_readsRow 20 = .ok (.iload_n 3, 1) := by decide +kernel
theorem dX11_readsRow_21 : decode cX11_readsRow 21 = .ok (.invokestatic 251, 3) := by decide +kernel
theorem dX11_readsRow_24 : decode cX11_readsRow 24 = .ok (.ifCond .ne 13, 3) := by decide +kernel
theorem dX11_readsRow_27 : decode cX11_readsRow 27 = .ok (.aload_n 0, 1) := by decide +kernel
theorem dX11_readsRow_28 : decode cX11_readsRow 28 = .ok (.iconst 1, 1) := by decide +kernel
theorem dX11_readsRow_29 : decode cX11_readsRow 29 = .ok (.aload_n 0, 1) := by decide +kernel
theorem dX11_readsRow_30 : decode cX11_readsRow 30 = .ok (.getfield 171, 3) := by decide +kernel
theorem dX11_readsRow_33 : decode cX11_readsRow 33 = .ok (.invokevirtual 184, 3) := by decide +kernel
theorem dX11_readsRow_36 : decode cX11_readsRow 36 = .ok (.ireturn, 1) := by decide +kernel
theorem dX11_readsRow_37 : decode cX11_readsRow 37 = .ok (.iload_n 3, 1) := by decide +kernel
theorem dX11_readsRow_38 : decode cX11_readsRow 38 = .ok (.bipush 48, 2) := by decide +kernel
theorem dX11_readsRow_40 : decode cX11_readsRow 40 = .ok (.if_icmp .ne 8, 3) := by decide +kernel
theorem dX11_readsRow_43 : decode cX11_readsRow 43 = .ok (.bipush 10, 2) := by decide +kernel
theorem dX11_readsRow_45 : decode cX11_readsRow 45 = .ok (.goto 18, 3) := by decide +kernel
theorem dX11_readsRow_48 : decode cX11_readsRow 48 = .ok (.iload_n 3, 1) := by decide +kernel
theorem dX11_readsRow_49 : decode cX11_readsRow 49 = .ok (.invokestatic 251, 3) := by decide +kernel
theorem dX11_readsRow_52 : decode cX11_readsRow 52 = .ok (.ifCond .eq 10, 3) := by decide +kernel
theorem dX11_readsRow_55 : decode cX11_readsRow 55 = .ok (.iload_n 3, 1) := by decide +kernel
theorem dX11_readsRow_56 : decode cX11_readsRow 56 = .ok (.bipush 48, 2) := by decide +kernel
theorem dX11_readsRow_58 : decode cX11_readsRow 58 = .ok (.isub, 1) := by decide +kernel
theorem dX11_readsRow_59 : decode cX11_readsRow 59 = .ok (.goto 4, 3) := by decide +kernel
theorem dX11_readsRow_62 : decode cX11_readsRow 62 = .ok (.iconst 1, 1) := by decide +kernel
theorem dX11_readsRow_63 : decode cX11_readsRow 63 = .ok (.istore 4, 2) := by decide +kernel
theorem dX11_readsRow_65 : decode cX11_readsRow 65 = .ok (.iload_n 2, 1) := by decide +kernel
theorem dX11_readsRow_66 : decode cX11_readsRow 66 = .ok (.iload 4, 2) := by decide +kernel
theorem dX11_readsRow_68 : decode cX11_readsRow 68 = .ok (.iadd, 1) := by decide +kernel
theorem dX11_readsRow_69 : decode cX11_readsRow 69 = .ok (.bipush 10, 2) := by decide +kernel
theorem dX11_readsRow_71 : decode cX11_readsRow 71 = .ok (.if_icmp .le 14, 3) := by decide +kernel
theorem dX11_readsRow_74 : decode cX11_readsRow 74 = .ok (.aload_n 0, 1) := by decide +kernel
theorem dX11_readsRow_75 : decode cX11_readsRow 75 = .ok (.bipush 6, 2) := by decide +kernel
theorem dX11_readsRow_77 : decode cX11_readsRow 77 = .ok (.aload_n 0, 1) := by decide +kernel
theorem dX11_readsRow_78 : decode cX11_readsRow 78 = .ok (.getfield 171, 3) := by decide +kernel
theorem dX11_readsRow_81 : decode cX11_readsRow 81 = .ok (.invokevirtual 184, 3) := by decide +kernel
theorem dX11_readsRow_84 : decode cX11_readsRow 84 = .ok (.ireturn, 1) := by decide +kernel
theorem dX11_readsRow_85 : decode cX11_readsRow 85 = .ok (.iload 4, 2) := by decide +kernel
theorem dX11_readsRow_87 : decode cX11_readsRow 87 = .ok (.iconst 1, 1) := by decide +kernel
theorem dX11_readsRow_88 : decode cX11_readsRow 88 = .ok (.if_icmp .le 13, 3) := by decide +kernel
theorem dX11_readsRow_91 : decode cX11_readsRow 91 = .ok (.aload_n 0, 1) := by decide +kernel
theorem dX11_readsRow_92 : decode cX11_readsRow 92 = .ok (.aload_n 0, 1) := by decide +kernel
theorem dX11_readsRow_93 : decode cX11_readsRow 93 = .ok (.getfield 171, 3) := by decide +kernel
theorem dX11_readsRow_96 : decode cX11_readsRow 96 = .ok (.iconst 1, 1) := by decide +kernel
theorem dX11_readsRow_97 : decode cX11_readsRow 97 = .ok (.iadd, 1) := by decide +kernel
theorem dX11_readsRow_98 : decode cX11_readsRow 98 = .ok (.putfield 171, 3) := by decide +kernel
theorem dX11_readsRow_101 : decode cX11_readsRow 101 = .ok (.aload_n 0, 1) := by decide +kernel
theorem dX11_readsRow_102 : decode cX11_readsRow 102 = .ok (.invokevirtual 177, 3) := by decide +kernel
theorem dX11_readsRow_105 : decode cX11_readsRow 105 = .ok (.istore_n 3, 1) := by decide +kernel
theorem dX11_readsRow_106 : decode cX11_readsRow 106 = .ok (.iload_n 3, 1) := by decide +kernel
theorem dX11_readsRow_107 : decode cX11_readsRow 107 = .ok (.invokestatic 248, 3) := by decide +kernel
theorem dX11_readsRow_110 : decode cX11_readsRow 110 = .ok (.ifCond .ne 13, 3) := by decide +kernel
theorem dX11_readsRow_113 : decode cX11_readsRow 113 = .ok (.aload_n 0, 1) := by decide +kernel
theorem dX11_readsRow_114 : decode cX11_readsRow 114 = .ok (.iconst 1, 1) := by decide +kernel
theorem dX11_readsRow_115 : decode cX11_readsRow 115 = .ok (.aload_n 0, 1) := by decide +kernel
theorem dX11_readsRow_116 : decode cX11_readsRow 116 = .ok (.getfield 171, 3) := by decide +kernel
theorem dX11_readsRow_119 : decode cX11_readsRow 119 = .ok (.invokevirtual 184, 3) := by decide +kernel
theorem dX11_readsRow_122 : decode cX11_readsRow 122 = .ok (.ireturn, 1) := by decide +kernel
theorem dX11_readsRow_123 : decode cX11_readsRow 123 = .ok (.iconst 0, 1) := by decide +kernel
theorem dX11_readsRow_124 : decode cX11_readsRow 124 = .ok (.istore 5, 2) := by decide +kernel
theorem dX11_readsRow_126 : decode cX11_readsRow 126 = .ok (.iload 5, 2) := by decide +kernel
theorem dX11_readsRow_128 : decode cX11_readsRow 128 = .ok (.iload 4, 2) := by decide +kernel
theorem dX11_readsRow_130 : decode cX11_readsRow 130 = .ok (.if_icmp .ge 54, 3) := by decide +kernel
theorem dX11_readsRow_133 : decode cX11_readsRow 133 = .ok (.aload_n 0, 1) := by decide +kernel
theorem dX11_readsRow_134 : decode cX11_readsRow 134 = .ok (.getfield 68, 3) := by decide +kernel
theorem dX11_readsRow_137 : decode cX11_readsRow 137 = .ok (.bipush 10, 2) := by decide +kernel
theorem dX11_readsRow_139 : decode cX11_readsRow 139 = .ok (.iload_n 1, 1) := by decide +kernel
theorem dX11_readsRow_140 : decode cX11_readsRow 140 = .ok (.imul, 1) := by decide +kernel
theorem dX11_readsRow_141 : decode cX11_readsRow 141 = .ok (.iload_n 2, 1) := by decide +kernel
theorem dX11_readsRow_142 : decode cX11_readsRow 142 = .ok (.iadd, 1) := by decide +kernel
theorem dX11_readsRow_143 : decode cX11_readsRow 143 = .ok (.iload 5, 2) := by decide +kernel
theorem dX11_readsRow_145 : decode cX11_readsRow 145 = .ok (.iadd, 1) := by decide +kernel
theorem dX11_readsRow_146 : decode cX11_readsRow 146 = .ok (.iload_n 3, 1) := by decide +kernel
theorem dX11_readsRow_147 : decode cX11_readsRow 147 = .ok (.bipush 46, 2) := by decide +kernel
theorem dX11_readsRow_149 : decode cX11_readsRow 149 = .ok (.if_icmp .ne 7, 3) := by decide +kernel
theorem dX11_readsRow_152 : decode cX11_readsRow 152 = .ok (.iconst 0, 1) := by decide +kernel
theorem dX11_readsRow_153 : decode cX11_readsRow 153 = .ok (.goto 24, 3) := by decide +kernel
theorem dX11_readsRow_156 : decode cX11_readsRow 156 = .ok (.iload_n 3, 1) := by decide +kernel
theorem dX11_readsRow_157 : decode cX11_readsRow 157 = .ok (.bipush 35, 2) := by decide +kernel
theorem dX11_readsRow_159 : decode cX11_readsRow 159 = .ok (.if_icmp .ne 7, 3) := by decide +kernel
theorem dX11_readsRow_162 : decode cX11_readsRow 162 = .ok (.iconst 1, 1) := by decide +kernel
theorem dX11_readsRow_163 : decode cX11_readsRow 163 = .ok (.goto 14, 3) := by decide +kernel
theorem dX11_readsRow_166 : decode cX11_readsRow 166 = .ok (.iload_n 3, 1) := by decide +kernel
theorem dX11_readsRow_167 : decode cX11_readsRow 167 = .ok (.bipush 115, 2) := by decide +kernel
theorem dX11_readsRow_169 : decode cX11_readsRow 169 = .ok (.if_icmp .ne 7, 3) := by decide +kernel
theorem dX11_readsRow_172 : decode cX11_readsRow 172 = .ok (.iconst 2, 1) := by decide +kernel
theorem dX11_readsRow_173 : decode cX11_readsRow 173 = .ok (.goto 4, 3) := by decide +kernel
theorem dX11_readsRow_176 : decode cX11_readsRow 176 = .ok (.iconst 3, 1) := by decide +kernel
theorem dX11_readsRow_177 : decode cX11_readsRow 177 = .ok (.iastore, 1) := by decide +kernel
theorem dX11_readsRow_178 : decode cX11_readsRow 178 = .ok (.iinc 5 1, 3) := by decide +kernel
theorem dX11_readsRow_181 : decode cX11_readsRow 181 = .ok (.goto (-55), 3) := by decide +kernel
theorem dX11_readsRow_184 : decode cX11_readsRow 184 = .ok (.iload_n 2, 1) := by decide +kernel
theorem dX11_readsRow_185 : decode cX11_readsRow 185 = .ok (.iload 4, 2) := by decide +kernel
theorem dX11_readsRow_187 : decode cX11_readsRow 187 = .ok (.iadd, 1) := by decide +kernel
theorem dX11_readsRow_188 : decode cX11_readsRow 188 = .ok (.istore_n 2, 1) := by decide +kernel
theorem dX11_readsRow_189 : decode cX11_readsRow 189 = .ok (.aload_n 0, 1) := by decide +kernel
theorem dX11_readsRow_190 : decode cX11_readsRow 190 = .ok (.aload_n 0, 1) := by decide +kernel
theorem dX11_readsRow_191 : decode cX11_readsRow 191 = .ok (.getfield 171, 3) := by decide +kernel
theorem dX11_readsRow_194 : decode cX11_readsRow 194 = .ok (.iconst 1, 1) := by decide +kernel
theorem dX11_readsRow_195 : decode cX11_readsRow 195 = .ok (.iadd, 1) := by decide +kernel
theorem dX11_readsRow_196 : decode cX11_readsRow 196 = .ok (.putfield 171, 3) := by decide +kernel
theorem dX11_readsRow_199 : decode cX11_readsRow 199 = .ok (.goto (-197), 3) := by decide +kernel
theorem dX11_readsRow_202 : decode cX11_readsRow 202 = .ok (.aload_n 0, 1) := by decide +kernel
theorem dX11_readsRow_203 : decode cX11_readsRow 203 = .ok (.invokevirtual 177, 3) := by decide +kernel
theorem dX11_readsRow_206 : decode cX11_readsRow 206 = .ok (.invokestatic 248, 3) := by decide +kernel
theorem dX11_readsRow_209 : decode cX11_readsRow 209 = .ok (.ifCond .ne 13, 3) := by decide +kernel
theorem dX11_readsRow_212 : decode cX11_readsRow 212 = .ok (.aload_n 0, 1) := by decide +kernel
theorem dX11_readsRow_213 : decode cX11_readsRow 213 = .ok (.invokevirtual 177, 3) := by decide +kernel
theorem dX11_readsRow_216 : decode cX11_readsRow 216 = .ok (.invokestatic 251, 3) := by decide +kernel
theorem dX11_readsRow_219 : decode cX11_readsRow 219 = .ok (.ifCond .eq 16, 3) := by decide +kernel
theorem dX11_readsRow_222 : decode cX11_readsRow 222 = .ok (.aload_n 0, 1) := by decide +kernel
theorem dX11_readsRow_223 : decode cX11_readsRow 223 = .ok (.bipush 6, 2) := by decide +kernel
theorem dX11_readsRow_225 : decode cX11_readsRow 225 = .ok (.aload_n 0, 1) := by decide +kernel
theorem dX11_readsRow_226 : decode cX11_readsRow 226 = .ok (.getfield 171, 3) := by decide +kernel
theorem dX11_readsRow_229 : decode cX11_readsRow 229 = .ok (.invokevirtual 184, 3) := by decide +kernel
theorem dX11_readsRow_232 : decode cX11_readsRow 232 = .ok (.ifCond .eq 7, 3) := by decide +kernel
theorem dX11_readsRow_235 : decode cX11_readsRow 235 = .ok (.iconst 1, 1) := by decide +kernel
theorem dX11_readsRow_236 : decode cX11_readsRow 236 = .ok (.goto 4, 3) := by decide +kernel
theorem dX11_readsRow_239 : decode cX11_readsRow 239 = .ok (.iconst 0, 1) := by decide +kernel
theorem dX11_readsRow_240 : decode cX11_readsRow 240 = .ok (.ireturn, 1) := by decide +kernel


/-- the reader of a walk's text -/
def zRW (σ : xS) : Prop := (0 ≤ σ 268 34 ∧ σ 268 34 ≤ 60) ∧ (0 ≤ σ 268 35 ∧ σ 268 35 ≤ 2) ∧ ∀ j, 0 ≤ j → j < σ 268 35 → (0 ≤ σ 291 j ∧ σ 291 j ≤ σ 268 34) ∧ (1 ≤ σ 292 j ∧ σ 292 j ≤ 9)
theorem zRW.new {σ : xS} (h4 : σ 268 34 = 0) (h5 : σ 268 35 = 0) : zRW σ := ⟨by omega, by omega, fun j j1 j2 => by omega⟩
theorem zRW.push {σ τ : xS} {v : Int} (h : zRW σ) (h5 : τ 268 35 = σ 268 35 + 1 ∧ σ 268 35 < 2) (h4 : τ 268 34 = σ 268 34) (h1 : τ 291 = xud (σ 291) (σ 268 35) (σ 268 34)) (h2 : τ 292 = xud (σ 292) (σ 268 35) v) (hv : 1 ≤ v ∧ v ≤ 9) : zRW τ := by
  obtain ⟨q1, q2, q3⟩ := h
  refine ⟨by omega, by omega, fun j j1 j2 => ?_⟩
  rw [h1, h2, h4]
  by_cases e : j = σ 268 35
  · rw [e, xud_s, xud_s]; omega
  · rw [xud_o _ _ e, xud_o _ _ e]; exact q3 j j1 (by omega)
theorem zRW.f {σ τ : xS} (h : zRW σ) (h5 : 0 ≤ τ 268 35 ∧ τ 268 35 ≤ σ 268 35) (h4 : σ 268 34 ≤ τ 268 34 ∧ τ 268 34 ≤ 60) (h1 : τ 291 = σ 291) (h2 : τ 292 = σ 292) : zRW τ := by
  obtain ⟨q1, q2, q3⟩ := h
  refine ⟨by omega, by omega, fun j j1 j2 => ?_⟩
  rw [h1, h2]
  have := q3 j j1 (by omega)
  omega

theorem st_X11_34 (h0 : Nat) (σ : xS) (k : Nat) (a : Int) : xobj h0 (xU σ k 34 a) k 11 = (xobj h0 σ k 11).set 34 (.int (xJ a)) := by simp [xobj, xU]
theorem ln_X11_34 (h0 : Nat) (σ : xS) (k : Nat) : 34 < (xobj h0 σ k 11).length := by simp [xobj]
theorem st_X11_35 (h0 : Nat) (σ : xS) (k : Nat) (a : Int) : xobj h0 (xU σ k 35 a) k 11 = (xobj h0 σ k 11).set 35 (.int (xJ a)) := by simp [xobj, xU]
theorem ln_X11_35 (h0 : Nat) (σ : xS) (k : Nat) : 35 < (xobj h0 σ k 11).length := by simp [xobj]
theorem st_X11_36 (h0 : Nat) (σ : xS) (k : Nat) (a : Int) : xobj h0 (xU σ k 36 a) k 11 = (xobj h0 σ k 11).set 36 (.int (xJ a)) := by simp [xobj, xU]
theorem ln_X11_36 (h0 : Nat) (σ : xS) (k : Nat) : 36 < (xobj h0 σ k 11).length := by simp [xobj]
theorem st_X11_37 (h0 : Nat) (σ : xS) (k : Nat) (a : Int) : xobj h0 (xU σ k 37 a) k 11 = (xobj h0 σ k 11).set 37 (.int (xJ a)) := by simp [xobj, xU]
theorem ln_X11_37 (h0 : Nat) (σ : xS) (k : Nat) : 37 < (xobj h0 σ k 11).length := by simp [xobj]
theorem cf_X11_readsStep : xCF yX11_readsStep cX11_readsStep 4 (some .boolean) 0 := ⟨xq 1447 (by decide +kernel) rfl, xq 179 (by decide +kernel) rfl, by decide +kernel⟩
theorem cf_X11_readsTimes : xCF yX11_readsTimes cX11_readsTimes 1 none 0 := ⟨xq 1451 (by decide +kernel) rfl, xq 179 (by decide +kernel) rfl, by decide +kernel⟩
theorem cf_X11_repeats : xCF yX11_repeats cX11_repeats 6 (some .boolean) 3 := ⟨xq 1458 (by decide +kernel) rfl, xq 179 (by decide +kernel) rfl, by decide +kernel⟩
theorem cf_X11_wayOf : xCF yX11_wayOf cX11_wayOf 1 (some .int) 1 := ⟨xq 1454 (by decide +kernel) rfl, xq 179 (by decide +kernel) rfl, by decide +kernel⟩
theorem wq112 : Cond.selects yX11_readsStep.cls yX11_readsStep yX11_readsStep ∈ xTB := xq 112 (by decide +kernel) rfl
theorem wq113 : Cond.selects yX11_readsTimes.cls yX11_readsTimes yX11_readsTimes ∈ xTB := xq 113 (by decide +kernel) rfl
theorem wq114 : Cond.selects yX11_repeats.cls yX11_repeats yX11_repeats ∈ xTB := xq 114 (by decide +kernel) rfl
theorem wq1215 : Cond.fieldLink "ShadowCourtModel" (71) "ShadowCourtModel" "newStep" "[B" ∈ xTB := xq 1215 (by decide +kernel) rfl
theorem wq1216 : Cond.fieldLink "ShadowCourtModel" (74) "ShadowCourtModel" "roundFrom" "[I" ∈ xTB := xq 1216 (by decide +kernel) rfl
theorem wq1217 : Cond.fieldLink "ShadowCourtModel" (77) "ShadowCourtModel" "roundAt" "[I" ∈ xTB := xq 1217 (by decide +kernel) rfl
theorem wq1218 : Cond.fieldLink "ShadowCourtModel" (80) "ShadowCourtModel" "roundTimes" "[I" ∈ xTB := xq 1218 (by decide +kernel) rfl
theorem wq1219 : Cond.fieldLink "ShadowCourtModel" (270) "ShadowCourtModel" "newMany" "I" ∈ xTB := xq 1219 (by decide +kernel) rfl
theorem wq1220 : Cond.fieldLink "ShadowCourtModel" (282) "ShadowCourtModel" "rounds" "I" ∈ xTB := xq 1220 (by decide +kernel) rfl
theorem wq1221 : Cond.fieldLink "ShadowCourtModel" (273) "ShadowCourtModel" "stepFrom" "I" ∈ xTB := xq 1221 (by decide +kernel) rfl
theorem wq1222 : Cond.fieldLink "ShadowCourtModel" (276) "ShadowCourtModel" "stepTimes" "I" ∈ xTB := xq 1222 (by decide +kernel) rfl
theorem wq1444 : Cond.methodLink "ShadowCourtModel" (291) yX11_readsStep ∈ xTB := xq 1444 (by decide +kernel) rfl
theorem wq1446 : Cond.instanceMethod yX11_readsStep ∈ xTB := xq 1446 (by decide +kernel) rfl
theorem wq1448 : Cond.methodLink "ShadowCourtModel" (279) yX11_readsTimes ∈ xTB := xq 1448 (by decide +kernel) rfl
theorem wq1450 : Cond.instanceMethod yX11_readsTimes ∈ xTB := xq 1450 (by decide +kernel) rfl
theorem wq1452 : Cond.methodLink "ShadowCourtModel" (285) yX11_wayOf ∈ xTB := xq 1452 (by decide +kernel) rfl
theorem wq1453 : Cond.static yX11_wayOf ∈ xTB := xq 1453 (by decide +kernel) rfl
theorem wq1455 : Cond.methodLink "ShadowCourtModel" (288) yX11_repeats ∈ xTB := xq 1455 (by decide +kernel) rfl
theorem wq1457 : Cond.instanceMethod yX11_repeats ∈ xTB := xq 1457 (by decide +kernel) rfl
theorem dX11_readsStep_0 : decode cX11_readsStep 0 = .ok (.aload_n 0, 1) := by decide +kernel
theorem dX11_readsStep_1 : decode cX11_readsStep 1 = .ok (.invokevirtual 279, 3) := by decide +kernel
theorem dX11_readsStep_4 : decode cX11_readsStep 4 = .ok (.aload_n 0, 1) := by decide +kernel
theorem dX11_readsStep_5 : decode cX11_readsStep 5 = .ok (.invokevirtual 177, 3) := by decide +kernel
theorem dX11_readsStep_8 : decode cX11_readsStep 8 = .ok (.bipush 40, 2) := by decide +kernel
theorem dX11_readsStep_10 : decode cX11_readsStep 10 = .ok (.if_icmp .ne 87, 3) := by decide +kernel
theorem dX11_readsStep_13 : decode cX11_readsStep 13 = .ok (.aload_n 0, 1) := by decide +kernel
theorem dX11_readsStep_14 : decode cX11_readsStep 14 = .ok (.getfield 282, 3) := by decide +kernel
theorem dX11_readsStep_17 : decode cX11_readsStep 17 = .ok (.iconst 2, 1) := by decide +kernel
theorem dX11_readsStep_18 : decode cX11_readsStep 18 = .ok (.if_icmp .ne 13, 3) := by decide +kernel
theorem dX11_readsStep_21 : decode cX11_readsStep 21 = .ok (.aload_n 0, 1) := by decide +kernel
theorem dX11_readsStep_22 : decode cX11_readsStep 22 = .ok (.iconst 5, 1) := by decide +kernel
theorem dX11_readsStep_23 : decode cX11_readsStep 23 = .ok (.aload_n 0, 1) := by decide +kernel
theorem dX11_readsStep_24 : decode cX11_readsStep 24 = .ok (.getfield 171, 3) := by decide +kernel
theorem dX11_readsStep_27 : decode cX11_readsStep 27 = .ok (.invokevirtual 184, 3) := by decide +kernel
theorem dX11_readsStep_30 : decode cX11_readsStep 30 = .ok (.ireturn, 1) := by decide +kernel
theorem dX11_readsStep_31 : decode cX11_readsStep 31 = .ok (.aload_n 0, 1) := by decide +kernel
theorem dX11_readsStep_32 : decode cX11_readsStep 32 = .ok (.getfield 74, 3) := by decide +kernel
theorem dX11_readsStep_35 : decode cX11_readsStep 35 = .ok (.aload_n 0, 1) := by decide +kernel
theorem dX11_readsStep_36 : decode cX11_readsStep 36 = .ok (.getfield 282, 3) := by decide +kernel
theorem dX11_readsStep_39 : decode cX11_readsStep 39 = .ok (.aload_n 0, 1) := by decide +kernel
theorem dX11_readsStep_40 : decode cX11_readsStep 40 = .ok (.getfield 273, 3) := by decide +kernel
theorem dX11_readsStep_43 : decode cX11_readsStep 43 = .ok (.iastore, 1) := by decide +kernel
theorem dX11_readsStep_44 : decode cX11_readsStep 44 = .ok (.aload_n 0, 1) := by decide +kernel
theorem dX11_readsStep_45 : decode cX11_readsStep 45 = .ok (.getfield 77, 3) := by decide +kernel
theorem dX11_readsStep_48 : decode cX11_readsStep 48 = .ok (.aload_n 0, 1) := by decide +kernel
theorem dX11_readsStep_49 : decode cX11_readsStep 49 = .ok (.getfield 282, 3) := by decide +kernel
theorem dX11_readsStep_52 : decode cX11_readsStep 52 = .ok (.aload_n 0, 1) := by decide +kernel
theorem dX11_readsStep_53 : decode cX11_readsStep 53 = .ok (.getfield 270, 3) := by decide +kernel
theorem dX11_readsStep_56 : decode cX11_readsStep 56 = .ok (.iastore, 1) := by decide +kernel
theorem dX11_readsStep_57 : decode cX11_readsStep 57 = .ok (.aload_n 0, 1) := by decide +kernel
theorem dX11_readsStep_58 : decode cX11_readsStep 58 = .ok (.getfield 80, 3) := by decide +kernel
theorem dX11_readsStep_61 : decode cX11_readsStep 61 = .ok (.aload_n 0, 1) := by decide +kernel
theorem dX11_readsStep_62 : decode cX11_readsStep 62 = .ok (.getfield 282, 3) := by decide +kernel
theorem dX11_readsStep_65 : decode cX11_readsStep 65 = .ok (.aload_n 0, 1) := by decide +kernel
theorem dX11_readsStep_66 : decode cX11_readsStep 66 = .ok (.getfield 276, 3) := by decide +kernel
theorem dX11_readsStep_69 : decode cX11_readsStep 69 = .ok (.iastore, 1) := by decide +kernel
theorem dX11_readsStep_70 : decode cX11_readsStep 70 = .ok (.aload_n 0, 1) := by decide +kernel
theorem dX11_readsStep_71 : decode cX11_readsStep 71 = .ok (.aload_n 0, 1) := by decide +kernel
theorem dX11_readsStep_72 : decode cX11_readsStep 72 = .ok (.getfield 282, 3) := by decide +kernel
theorem dX11_readsStep_75 : decode cX11_readsStep 75 = .ok (.iconst 1, 1) := by decide +kernel
theorem dX11_readsStep_76 : decode cX11_readsStep 76 = .ok (.iadd, 1) := by decide +kernel
theorem dX11_readsStep_77 : decode cX11_readsStep 77 = .ok (.putfield 282, 3) := by decide +kernel
theorem dX11_readsStep_80 : decode cX11_readsStep 80 = .ok (.aload_n 0, 1) := by decide +kernel
theorem dX11_readsStep_81 : decode cX11_readsStep 81 = .ok (.aload_n 0, 1) := by decide +kernel
theorem dX11_readsStep_82 : decode cX11_readsStep 82 = .ok (.getfield 171, 3) := by decide +kernel
theorem dX11_readsStep_85 : decode cX11_readsStep 85 = .ok (.iconst 1, 1) := by decide +kernel
theorem dX11_readsStep_86 : decode cX11_readsStep 86 = .ok (.iadd, 1) := by decide +kernel
theorem dX11_readsStep_87 : decode cX11_readsStep 87 = .ok (.putfield 171, 3) := by decide +kernel
theorem dX11_readsStep_90 : decode cX11_readsStep 90 = .ok (.aload_n 0, 1) := by decide +kernel
theorem dX11_readsStep_91 : decode cX11_readsStep 91 = .ok (.invokevirtual 279, 3) := by decide +kernel
theorem dX11_readsStep_94 : decode cX11_readsStep 94 = .ok (.goto (-90), 3) := by decide +kernel
theorem dX11_readsStep_97 : decode cX11_readsStep 97 = .ok (.aload_n 0, 1) := by decide +kernel
theorem dX11_readsStep_98 : decode cX11_readsStep 98 = .ok (.getfield 273, 3) := by decide +kernel
theorem dX11_readsStep_101 : decode cX11_readsStep 101 = .ok (.istore_n 1, 1) := by decide +kernel
theorem dX11_readsStep_102 : decode cX11_readsStep 102 = .ok (.aload_n 0, 1) := by decide +kernel
theorem dX11_readsStep_103 : decode cX11_readsStep 103 = .ok (.getfield 276, 3) := by decide +kernel
theorem dX11_readsStep_106 : decode cX11_readsStep 106 = .ok (.istore_n 2, 1) := by decide +kernel
theorem dX11_readsStep_107 : decode cX11_readsStep 107 = .ok (.aload_n 0, 1) := by decide +kernel
theorem dX11_readsStep_108 : decode cX11_readsStep 108 = .ok (.invokevirtual 177, 3) := by decide +kernel
theorem dX11_readsStep_111 : decode cX11_readsStep 111 = .ok (.invokestatic 285, 3) := by decide +kernel
theorem dX11_readsStep_114 : decode cX11_readsStep 114 = .ok (.istore_n 3, 1) := by decide +kernel
theorem dX11_readsStep_115 : decode cX11_readsStep 115 = .ok (.iload_n 3, 1) := by decide +kernel
theorem dX11_readsStep_116 : decode cX11_readsStep 116 = .ok (.iconst (-1), 1) := by decide +kernel
theorem dX11_readsStep_117 : decode cX11_readsStep 117 = .ok (.if_icmp .ne 13, 3) := by decide +kernel
theorem dX11_readsStep_120 : decode cX11_readsStep 120 = .ok (.aload_n 0, 1) := by decide +kernel
theorem dX11_readsStep_121 : decode cX11_readsStep 121 = .ok (.iconst 1, 1) := by decide +kernel
theorem dX11_readsStep_122 : decode cX11_readsStep 122 = .ok (.aload_n 0, 1) := by decide +kernel
theorem dX11_readsStep_123 : decode cX11_readsStep 123 = .ok (.getfield 171, 3) := by decide +kernel
theorem dX11_readsStep_126 : decode cX11_readsStep 126 = .ok (.invokevirtual 184, 3) := by decide +kernel
theorem dX11_readsStep_129 : decode cX11_readsStep 129 = .ok (.ireturn, 1) := by decide +kernel
theorem dX11_readsStep_130 : decode cX11_readsStep 130 = .ok (.aload_n 0, 1) := by decide +kernel
theorem dX11_readsStep_131 : decode cX11_readsStep 131 = .ok (.aload_n 0, 1) := by decide +kernel
theorem dX11_readsStep_132 : decode cX11_readsStep 132 = .ok (.getfield 171, 3) := by decide +kernel
theorem dX11_readsStep_135 : decode cX11_readsStep 135 = .ok (.iconst 1, 1) := by decide +kernel
theorem dX11_readsStep_136 : decode cX11_readsStep 136 = .ok (.iadd, 1) := by decide +kernel
theorem dX11_readsStep_137 : decode cX11_readsStep 137 = .ok (.putfield 171, 3) := by decide +kernel
theorem dX11_readsStep_140 : decode cX11_readsStep 140 = .ok (.aload_n 0, 1) := by decide +kernel
theorem dX11_readsStep_141 : decode cX11_readsStep 141 = .ok (.getfield 270, 3) := by decide +kernel
theorem dX11_readsStep_144 : decode cX11_readsStep 144 = .ok (.iload_n 2, 1) := by decide +kernel
theorem dX11_readsStep_145 : decode cX11_readsStep 145 = .ok (.iadd, 1) := by decide +kernel
theorem dX11_readsStep_146 : decode cX11_readsStep 146 = .ok (.bipush 60, 2) := by decide +kernel
theorem dX11_readsStep_148 : decode cX11_readsStep 148 = .ok (.if_icmp .le 11, 3) := by decide +kernel
theorem dX11_readsStep_151 : decode cX11_readsStep 151 = .ok (.aload_n 0, 1) := by decide +kernel
theorem dX11_readsStep_152 : decode cX11_readsStep 152 = .ok (.bipush 6, 2) := by decide +kernel
theorem dX11_readsStep_154 : decode cX11_readsStep 154 = .ok (.iload_n 1, 1) := by decide +kernel
theorem dX11_readsStep_155 : decode cX11_readsStep 155 = .ok (.invokevirtual 184, 3) := by decide +kernel
theorem dX11_readsStep_158 : decode cX11_readsStep 158 = .ok (.ireturn, 1) := by decide +kernel
theorem dX11_readsStep_159 : decode cX11_readsStep 159 = .ok (.aload_n 0, 1) := by decide +kernel
theorem dX11_readsStep_160 : decode cX11_readsStep 160 = .ok (.getfield 71, 3) := by decide +kernel
theorem dX11_readsStep_163 : decode cX11_readsStep 163 = .ok (.aload_n 0, 1) := by decide +kernel
theorem dX11_readsStep_164 : decode cX11_readsStep 164 = .ok (.getfield 270, 3) := by decide +kernel
theorem dX11_readsStep_167 : decode cX11_readsStep 167 = .ok (.iload_n 3, 1) := by decide +kernel
theorem dX11_readsStep_168 : decode cX11_readsStep 168 = .ok (.i2b, 1) := by decide +kernel
theorem dX11_readsStep_169 : decode cX11_readsStep 169 = .ok (.bastore, 1) := by decide +kernel
theorem dX11_readsStep_170 : decode cX11_readsStep 170 = .ok (.aload_n 0, 1) := by decide +kernel
theorem dX11_readsStep_171 : decode cX11_readsStep 171 = .ok (.aload_n 0, 1) := by decide +kernel
theorem dX11_readsStep_172 : decode cX11_readsStep 172 = .ok (.getfield 270, 3) := by decide +kernel
theorem dX11_readsStep_175 : decode cX11_readsStep 175 = .ok (.iconst 1, 1) := by decide +kernel
theorem dX11_readsStep_176 : decode cX11_readsStep 176 = .ok (.iadd, 1) := by decide +kernel
theorem dX11_readsStep_177 : decode cX11_readsStep 177 = .ok (.putfield 270, 3) := by decide +kernel
theorem dX11_readsStep_180 : decode cX11_readsStep 180 = .ok (.aload_n 0, 1) := by decide +kernel
theorem dX11_readsStep_181 : decode cX11_readsStep 181 = .ok (.aload_n 0, 1) := by decide +kernel
theorem dX11_readsStep_182 : decode cX11_readsStep 182 = .ok (.getfield 270, 3) := by decide +kernel
theorem dX11_readsStep_185 : decode cX11_readsStep 185 = .ok (.iconst 1, 1) := by decide +kernel
theorem dX11_readsStep_186 : decode cX11_readsStep 186 = .ok (.isub, 1) := by decide +kernel
theorem dX11_readsStep_187 : decode cX11_readsStep 187 = .ok (.iload_n 2, 1) := by decide +kernel
theorem dX11_readsStep_188 : decode cX11_readsStep 188 = .ok (.iload_n 1, 1) := by decide +kernel
theorem dX11_readsStep_189 : decode cX11_readsStep 189 = .ok (.invokevirtual 288, 3) := by decide +kernel
theorem dX11_readsStep_192 : decode cX11_readsStep 192 = .ok (.ifCond .ne 5, 3) := by decide +kernel
theorem dX11_readsStep_195 : decode cX11_readsStep 195 = .ok (.iconst 0, 1) := by decide +kernel
theorem dX11_readsStep_196 : decode cX11_readsStep 196 = .ok (.ireturn, 1) := by decide +kernel
theorem dX11_readsStep_197 : decode cX11_readsStep 197 = .ok (.aload_n 0, 1) := by decide +kernel
theorem dX11_readsStep_198 : decode cX11_readsStep 198 = .ok (.invokevirtual 177, 3) := by decide +kernel
theorem dX11_readsStep_201 : decode cX11_readsStep 201 = .ok (.bipush 41, 2) := by decide +kernel
theorem dX11_readsStep_203 : decode cX11_readsStep 203 = .ok (.if_icmp .ne 66, 3) := by decide +kernel
theorem dX11_readsStep_206 : decode cX11_readsStep 206 = .ok (.aload_n 0, 1) := by decide +kernel
theorem dX11_readsStep_207 : decode cX11_readsStep 207 = .ok (.getfield 282, 3) := by decide +kernel
theorem dX11_readsStep_210 : decode cX11_readsStep 210 = .ok (.ifCond .le 59, 3) := by decide +kernel
theorem dX11_readsStep_213 : decode cX11_readsStep 213 = .ok (.aload_n 0, 1) := by decide +kernel
theorem dX11_readsStep_214 : decode cX11_readsStep 214 = .ok (.aload_n 0, 1) := by decide +kernel
theorem dX11_readsStep_215 : decode cX11_readsStep 215 = .ok (.getfield 171, 3) := by decide +kernel
theorem dX11_readsStep_218 : decode cX11_readsStep 218 = .ok (.iconst 1, 1) := by decide +kernel
theorem dX11_readsStep_219 : decode cX11_readsStep 219 = .ok (.iadd, 1) := by decide +kernel
theorem dX11_readsStep_220 : decode cX11_readsStep 220 = .ok (.putfield 171, 3) := by decide +kernel
theorem dX11_readsStep_223 : decode cX11_readsStep 223 = .ok (.aload_n 0, 1) := by decide +kernel
theorem dX11_readsStep_224 : decode cX11_readsStep 224 = .ok (.aload_n 0, 1) := by decide +kernel
theorem dX11_readsStep_225 : decode cX11_readsStep 225 = .ok (.getfield 282, 3) := by decide +kernel
theorem dX11_readsStep_228 : decode cX11_readsStep 228 = .ok (.iconst 1, 1) := by decide +kernel
theorem dX11_readsStep_229 : decode cX11_readsStep 229 = .ok (.isub, 1) := by decide +kernel
theorem dX11_readsStep_230 : decode cX11_readsStep 230 = .ok (.putfield 282, 3) := by decide +kernel
theorem dX11_readsStep_233 : decode cX11_readsStep 233 = .ok (.aload_n 0, 1) := by decide +kernel
theorem dX11_readsStep_234 : decode cX11_readsStep 234 = .ok (.aload_n 0, 1) := by decide +kernel
theorem dX11_readsStep_235 : decode cX11_readsStep 235 = .ok (.getfield 77, 3) := by decide +kernel
theorem dX11_readsStep_238 : decode cX11_readsStep 238 = .ok (.aload_n 0, 1) := by decide +kernel
theorem dX11_readsStep_239 : decode cX11_readsStep 239 = .ok (.getfield 282, 3) := by decide +kernel
theorem dX11_readsStep_242 : decode cX11_readsStep 242 = .ok (.iaload, 1) := by decide +kernel
theorem dX11_readsStep_243 : decode cX11_readsStep 243 = .ok (.aload_n 0, 1) := by decide +kernel
theorem dX11_readsStep_244 : decode cX11_readsStep 244 = .ok (.getfield 80, 3) := by decide +kernel
theorem dX11_readsStep_247 : decode cX11_readsStep 247 = .ok (.aload_n 0, 1) := by decide +kernel
theorem dX11_readsStep_248 : decode cX11_readsStep 248 = .ok (.getfield 282, 3) := by decide +kernel
theorem dX11_readsStep_251 : decode cX11_readsStep 251 = .ok (.iaload, 1) := by decide +kernel
theorem dX11_readsStep_252 : decode cX11_readsStep 252 = .ok (.aload_n 0, 1) := by decide +kernel
theorem dX11_readsStep_253 : decode cX11_readsStep 253 = .ok (.getfield 74, 3) := by decide +kernel
theorem dX11_readsStep_256 : decode cX11_readsStep 256 = .ok (.aload_n 0, 1) := by decide +kernel
theorem dX11_readsStep_257 : decode cX11_readsStep 257 = .ok (.getfield 282, 3) := by decide +kernel
theorem dX11_readsStep_260 : decode cX11_readsStep 260 = .ok (.iaload, 1) := by decide +kernel
theorem dX11_readsStep_261 : decode cX11_readsStep 261 = .ok (.invokevirtual 288, 3) := by decide +kernel
theorem dX11_readsStep_264 : decode cX11_readsStep 264 = .ok (.ifCond .ne (-67), 3) := by decide +kernel
theorem dX11_readsStep_267 : decode cX11_readsStep 267 = .ok (.iconst 0, 1) := by decide +kernel
theorem dX11_readsStep_268 : decode cX11_readsStep 268 = .ok (.ireturn, 1) := by decide +kernel
theorem dX11_readsStep_269 : decode cX11_readsStep 269 = .ok (.iconst 1, 1) := by decide +kernel
theorem dX11_readsStep_270 : decode cX11_readsStep 270 = .ok (.ireturn, 1) := by decide +kernel
theorem dX11_readsTimes_0 : decode cX11_readsTimes 0 = .ok (.aload_n 0, 1) := by decide +kernel
theorem dX11_readsTimes_1 : decode cX11_readsTimes 1 = .ok (.aload_n 0, 1) := by decide +kernel
theorem dX11_readsTimes_2 : decode cX11_readsTimes 2 = .ok (.getfield 171, 3) := by decide +kernel
theorem dX11_readsTimes_5 : decode cX11_readsTimes 5 = .ok (.putfield 273, 3) := by decide +kernel
theorem dX11_readsTimes_8 : decode cX11_readsTimes 8 = .ok (.aload_n 0, 1) := by decide +kernel
theorem dX11_readsTimes_9 : decode cX11_readsTimes 9 = .ok (.iconst 1, 1) := by decide +kernel
theorem dX11_readsTimes_10 : decode cX11_readsTimes 10 = .ok (.putfield 276, 3) := by decide +kernel
theorem dX11_readsTimes_13 : decode cX11_readsTimes 13 = .ok (.aload_n 0, 1) := by decide +kernel
theorem dX11_readsTimes_14 : decode cX11_readsTimes 14 = .ok (.invokevirtual 177, 3) := by decide +kernel
theorem dX11_readsTimes_17 : decode cX11_readsTimes 17 = .ok (.bipush 50, 2) := by decide +kernel
theorem dX11_readsTimes_19 : decode cX11_readsTimes 19 = .ok (.bipush 57, 2) := by decide +kernel
theorem dX11_readsTimes_21 : decode cX11_readsTimes 21 = .ok (.invokestatic 150, 3) := by decide +kernel
theorem dX11_readsTimes_24 : decode cX11_readsTimes 24 = .ok (.ifCond .ne 4, 3) := by decide +kernel
theorem dX11_readsTimes_27 : decode cX11_readsTimes 27 = .ok (.return_, 1) := by decide +kernel
theorem dX11_readsTimes_28 : decode cX11_readsTimes 28 = .ok (.aload_n 0, 1) := by decide +kernel
theorem dX11_readsTimes_29 : decode cX11_readsTimes 29 = .ok (.aload_n 0, 1) := by decide +kernel
theorem dX11_readsTimes_30 : decode cX11_readsTimes 30 = .ok (.invokevirtual 177, 3) := by decide +kernel
theorem dX11_readsTimes_33 : decode cX11_readsTimes 33 = .ok (.bipush 48, 2) := by decide +kernel
theorem dX11_readsTimes_35 : decode cX11_readsTimes 35 = .ok (.isub, 1) := by decide +kernel
theorem dX11_readsTimes_36 : decode cX11_readsTimes 36 = .ok (.putfield 276, 3) := by decide +kernel
theorem dX11_readsTimes_39 : decode cX11_readsTimes 39 = .ok (.aload_n 0, 1) := by decide +kernel
theorem dX11_readsTimes_40 : decode cX11_readsTimes 40 = .ok (.aload_n 0, 1) := by decide +kernel
theorem dX11_readsTimes_41 : decode cX11_readsTimes 41 = .ok (.getfield 171, 3) := by decide +kernel
theorem dX11_readsTimes_44 : decode cX11_readsTimes 44 = .ok (.iconst 1, 1) := by decide +kernel
theorem dX11_readsTimes_45 : decode cX11_readsTimes 45 = .ok (.iadd, 1) := by decide +kernel
theorem dX11_readsTimes_46 : decode cX11_readsTimes 46 = .ok (.putfield 171, 3) := by decide +kernel
theorem dX11_readsTimes_49 : decode cX11_readsTimes 49 = .ok (.return_, 1) := by decide +kernel
theorem dX11_repeats_0 : decode cX11_repeats 0 = .ok (.aload_n 0, 1) := by decide +kernel
theorem dX11_repeats_1 : decode cX11_repeats 1 = .ok (.getfield 270, 3) := by decide +kernel
theorem dX11_repeats_4 : decode cX11_repeats 4 = .ok (.iload_n 1, 1) := by decide +kernel
theorem dX11_repeats_5 : decode cX11_repeats 5 = .ok (.isub, 1) := by decide +kernel
theorem dX11_repeats_6 : decode cX11_repeats 6 = .ok (.istore 4, 2) := by decide +kernel
theorem dX11_repeats_8 : decode cX11_repeats 8 = .ok (.iload_n 1, 1) := by decide +kernel
theorem dX11_repeats_9 : decode cX11_repeats 9 = .ok (.iload 4, 2) := by decide +kernel
theorem dX11_repeats_11 : decode cX11_repeats 11 = .ok (.iload_n 2, 1) := by decide +kernel
theorem dX11_repeats_12 : decode cX11_repeats 12 = .ok (.imul, 1) := by decide +kernel
theorem dX11_repeats_13 : decode cX11_repeats 13 = .ok (.iadd, 1) := by decide +kernel
theorem dX11_repeats_14 : decode cX11_repeats 14 = .ok (.bipush 60, 2) := by decide +kernel
theorem dX11_repeats_16 : decode cX11_repeats 16 = .ok (.if_icmp .le 11, 3) := by decide +kernel
theorem dX11_repeats_19 : decode cX11_repeats 19 = .ok (.aload_n 0, 1) := by decide +kernel
theorem dX11_repeats_20 : decode cX11_repeats 20 = .ok (.bipush 6, 2) := by decide +kernel
theorem dX11_repeats_22 : decode cX11_repeats 22 = .ok (.iload_n 3, 1) := by decide +kernel
theorem dX11_repeats_23 : decode cX11_repeats 23 = .ok (.invokevirtual 184, 3) := by decide +kernel
theorem dX11_repeats_26 : decode cX11_repeats 26 = .ok (.ireturn, 1) := by decide +kernel
theorem dX11_repeats_27 : decode cX11_repeats 27 = .ok (.iload 4, 2) := by decide +kernel
theorem dX11_repeats_29 : decode cX11_repeats 29 = .ok (.istore 5, 2) := by decide +kernel
theorem dX11_repeats_31 : decode cX11_repeats 31 = .ok (.iload 5, 2) := by decide +kernel
theorem dX11_repeats_33 : decode cX11_repeats 33 = .ok (.iload 4, 2) := by decide +kernel
theorem dX11_repeats_35 : decode cX11_repeats 35 = .ok (.iload_n 2, 1) := by decide +kernel
theorem dX11_repeats_36 : decode cX11_repeats 36 = .ok (.imul, 1) := by decide +kernel
theorem dX11_repeats_37 : decode cX11_repeats 37 = .ok (.if_icmp .ge 30, 3) := by decide +kernel
theorem dX11_repeats_40 : decode cX11_repeats 40 = .ok (.aload_n 0, 1) := by decide +kernel
theorem dX11_repeats_41 : decode cX11_repeats 41 = .ok (.getfield 71, 3) := by decide +kernel
theorem dX11_repeats_44 : decode cX11_repeats 44 = .ok (.iload_n 1, 1) := by decide +kernel
theorem dX11_repeats_45 : decode cX11_repeats 45 = .ok (.iload 5, 2) := by decide +kernel
theorem dX11_repeats_47 : decode cX11_repeats 47 = .ok (.iadd, 1) := by decide +kernel
theorem dX11_repeats_48 : decode cX11_repeats 48 = .ok (.aload_n 0, 1) := by decide +kernel
theorem dX11_repeats_49 : decode cX11_repeats 49 = .ok (.getfield 71, 3) := by decide +kernel
theorem dX11_repeats_52 : decode cX11_repeats 52 = .ok (.iload_n 1, 1) := by decide +kernel
theorem dX11_repeats_53 : decode cX11_repeats 53 = .ok (.iload 5, 2) := by decide +kernel
theorem dX11_repeats_55 : decode cX11_repeats 55 = .ok (.iadd, 1) := by decide +kernel
theorem dX11_repeats_56 : decode cX11_repeats 56 = .ok (.iload 4, 2) := by decide +kernel
theorem dX11_repeats_58 : decode cX11_repeats 58 = .ok (.isub, 1) := by decide +kernel
theorem dX11_repeats_59 : decode cX11_repeats 59 = .ok (.baload, 1) := by decide +kernel
theorem dX11_repeats_60 : decode cX11_repeats 60 = .ok (.bastore, 1) := by decide +kernel
theorem dX11_repeats_61 : decode cX11_repeats 61 = .ok (.iinc 5 1, 3) := by decide +kernel
theorem dX11_repeats_64 : decode cX11_repeats 64 = .ok (.goto (-33), 3) := by decide +kernel
theorem dX11_repeats_67 : decode cX11_repeats 67 = .ok (.aload_n 0, 1) := by decide +kernel
theorem dX11_repeats_68 : decode cX11_repeats 68 = .ok (.iload_n 1, 1) := by decide +kernel
theorem dX11_repeats_69 : decode cX11_repeats 69 = .ok (.iload 4, 2) := by decide +kernel
theorem dX11_repeats_71 : decode cX11_repeats 71 = .ok (.iload_n 2, 1) := by decide +kernel
theorem dX11_repeats_72 : decode cX11_repeats 72 = .ok (.imul, 1) := by decide +kernel
theorem dX11_repeats_73 : decode cX11_repeats 73 = .ok (.iadd, 1) := by decide +kernel
theorem dX11_repeats_74 : decode cX11_repeats 74 = .ok (.putfield 270, 3) := by decide +kernel
theorem dX11_repeats_77 : decode cX11_repeats 77 = .ok (.iconst 1, 1) := by decide +kernel
theorem dX11_repeats_78 : decode cX11_repeats 78 = .ok (.ireturn, 1) := by decide +kernel
theorem dX11_walk_0 : decode cX11_walk 0 = .ok (.iload_n 1, 1) := by decide +kernel
theorem dX11_walk_1 : decode cX11_walk 1 = .ok (.iconst 2, 1) := by decide +kernel
theorem dX11_walk_2 : decode cX11_walk 2 = .ok (.invokestatic 139, 3) := by decide +kernel
theorem dX11_walk_5 : decode cX11_walk 5 = .ok (.ifCond .eq 21, 3) := by decide +kernel
theorem dX11_walk_8 : decode cX11_walk 8 = .ok (.iload_n 2, 1) := by decide +kernel
theorem dX11_walk_9 : decode cX11_walk 9 = .ok (.iconst 1, 1) := by decide +kernel
theorem dX11_walk_10 : decode cX11_walk 10 = .ok (.bipush 80, 2) := by decide +kernel
theorem dX11_walk_12 : decode cX11_walk 12 = .ok (.invokestatic 150, 3) := by decide +kernel
theorem dX11_walk_15 : decode cX11_walk 15 = .ok (.ifCond .eq 11, 3) := by decide +kernel
theorem dX11_walk_18 : decode cX11_walk 18 = .ok (.iload_n 2, 1) := by decide +kernel
theorem dX11_walk_19 : decode cX11_walk 19 = .ok (.aload_n 0, 1) := by decide +kernel
theorem dX11_walk_20 : decode cX11_walk 20 = .ok (.getfield 164, 3) := by decide +kernel
theorem dX11_walk_23 : decode cX11_walk 23 = .ok (.if_icmp .le 5, 3) := by decide +kernel
theorem dX11_walk_26 : decode cX11_walk 26 = .ok (.iconst (-1), 1) := by decide +kernel
theorem dX11_walk_27 : decode cX11_walk 27 = .ok (.ireturn, 1) := by decide +kernel
theorem dX11_walk_28 : decode cX11_walk 28 = .ok (.aload_n 0, 1) := by decide +kernel
theorem dX11_walk_29 : decode cX11_walk 29 = .ok (.iconst 0, 1) := by decide +kernel
theorem dX11_walk_30 : decode cX11_walk 30 = .ok (.putfield 171, 3) := by decide +kernel
theorem dX11_walk_33 : decode cX11_walk 33 = .ok (.aload_n 0, 1) := by decide +kernel
theorem dX11_walk_34 : decode cX11_walk 34 = .ok (.iload_n 2, 1) := by decide +kernel
theorem dX11_walk_35 : decode cX11_walk 35 = .ok (.putfield 174, 3) := by decide +kernel
theorem dX11_walk_38 : decode cX11_walk 38 = .ok (.aload_n 0, 1) := by decide +kernel
theorem dX11_walk_39 : decode cX11_walk 39 = .ok (.iconst 0, 1) := by decide +kernel
theorem dX11_walk_40 : decode cX11_walk 40 = .ok (.putfield 270, 3) := by decide +kernel
theorem dX11_walk_43 : decode cX11_walk 43 = .ok (.aload_n 0, 1) := by decide +kernel
theorem dX11_walk_44 : decode cX11_walk 44 = .ok (.iconst 0, 1) := by decide +kernel
theorem dX11_walk_45 : decode cX11_walk 45 = .ok (.putfield 282, 3) := by decide +kernel
theorem dX11_walk_48 : decode cX11_walk 48 = .ok (.aload_n 0, 1) := by decide +kernel
theorem dX11_walk_49 : decode cX11_walk 49 = .ok (.invokevirtual 291, 3) := by decide +kernel
theorem dX11_walk_52 : decode cX11_walk 52 = .ok (.istore_n 3, 1) := by decide +kernel
theorem dX11_walk_53 : decode cX11_walk 53 = .ok (.iload_n 3, 1) := by decide +kernel
theorem dX11_walk_54 : decode cX11_walk 54 = .ok (.ifCond .eq 29, 3) := by decide +kernel
theorem dX11_walk_57 : decode cX11_walk 57 = .ok (.aload_n 0, 1) := by decide +kernel
theorem dX11_walk_58 : decode cX11_walk 58 = .ok (.getfield 171, 3) := by decide +kernel
theorem dX11_walk_61 : decode cX11_walk 61 = .ok (.aload_n 0, 1) := by decide +kernel
theorem dX11_walk_62 : decode cX11_walk 62 = .ok (.getfield 174, 3) := by decide +kernel
theorem dX11_walk_65 : decode cX11_walk 65 = .ok (.if_icmp .lt 10, 3) := by decide +kernel
theorem dX11_walk_68 : decode cX11_walk 68 = .ok (.aload_n 0, 1) := by decide +kernel
theorem dX11_walk_69 : decode cX11_walk 69 = .ok (.getfield 282, 3) := by decide +kernel
theorem dX11_walk_72 : decode cX11_walk 72 = .ok (.ifCond .le 11, 3) := by decide +kernel
theorem dX11_walk_75 : decode cX11_walk 75 = .ok (.aload_n 0, 1) := by decide +kernel
theorem dX11_walk_76 : decode cX11_walk 76 = .ok (.invokevirtual 291, 3) := by decide +kernel
theorem dX11_walk_79 : decode cX11_walk 79 = .ok (.istore_n 3, 1) := by decide +kernel
theorem dX11_walk_80 : decode cX11_walk 80 = .ok (.goto (-27), 3) := by decide +kernel
theorem dX11_walk_83 : decode cX11_walk 83 = .ok (.aload_n 0, 1) := by decide +kernel
theorem dX11_walk_84 : decode cX11_walk 84 = .ok (.iconst 0, 1) := by decide +kernel
theorem dX11_walk_85 : decode cX11_walk 85 = .ok (.putfield 164, 3) := by decide +kernel
theorem dX11_walk_88 : decode cX11_walk 88 = .ok (.iload_n 3, 1) := by decide +kernel
theorem dX11_walk_89 : decode cX11_walk 89 = .ok (.ifCond .ne 8, 3) := by decide +kernel
theorem dX11_walk_92 : decode cX11_walk 92 = .ok (.aload_n 0, 1) := by decide +kernel
theorem dX11_walk_93 : decode cX11_walk 93 = .ok (.getfield 181, 3) := by decide +kernel
theorem dX11_walk_96 : decode cX11_walk 96 = .ok (.ireturn, 1) := by decide +kernel
theorem dX11_walk_97 : decode cX11_walk 97 = .ok (.aload_n 0, 1) := by decide +kernel
theorem dX11_walk_98 : decode cX11_walk 98 = .ok (.getfield 25, 3) := by decide +kernel
theorem dX11_walk_101 : decode cX11_walk 101 = .ok (.iload_n 1, 1) := by decide +kernel
theorem dX11_walk_102 : decode cX11_walk 102 = .ok (.aload_n 0, 1) := by decide +kernel
theorem dX11_walk_103 : decode cX11_walk 103 = .ok (.getfield 270, 3) := by decide +kernel
theorem dX11_walk_106 : decode cX11_walk 106 = .ok (.iastore, 1) := by decide +kernel
theorem dX11_walk_107 : decode cX11_walk 107 = .ok (.aload_n 0, 1) := by decide +kernel
theorem dX11_walk_108 : decode cX11_walk 108 = .ok (.getfield 7, 3) := by decide +kernel
theorem dX11_walk_111 : decode cX11_walk 111 = .ok (.iconst 2, 1) := by decide +kernel
theorem dX11_walk_112 : decode cX11_walk 112 = .ok (.iload_n 1, 1) := by decide +kernel
theorem dX11_walk_113 : decode cX11_walk 113 = .ok (.iadd, 1) := by decide +kernel
theorem dX11_walk_114 : decode cX11_walk 114 = .ok (.iconst 0, 1) := by decide +kernel
theorem dX11_walk_115 : decode cX11_walk 115 = .ok (.iastore, 1) := by decide +kernel
theorem dX11_walk_116 : decode cX11_walk 116 = .ok (.iconst 0, 1) := by decide +kernel
theorem dX11_walk_117 : decode cX11_walk 117 = .ok (.istore 4, 2) := by decide +kernel
theorem dX11_walk_119 : decode cX11_walk 119 = .ok (.iload 4, 2) := by decide +kernel
theorem dX11_walk_121 : decode cX11_walk 121 = .ok (.aload_n 0, 1) := by decide +kernel
theorem dX11_walk_122 : decode cX11_walk 122 = .ok (.getfield 270, 3) := by decide +kernel
theorem dX11_walk_125 : decode cX11_walk 125 = .ok (.if_icmp .ge 28, 3) := by decide +kernel
theorem dX11_walk_128 : decode cX11_walk 128 = .ok (.aload_n 0, 1) := by decide +kernel
theorem dX11_walk_129 : decode cX11_walk 129 = .ok (.getfield 28, 3) := by decide +kernel
theorem dX11_walk_132 : decode cX11_walk 132 = .ok (.bipush 60, 2) := by decide +kernel
theorem dX11_walk_134 : decode cX11_walk 134 = .ok (.iload_n 1, 1) := by decide +kernel
theorem dX11_walk_135 : decode cX11_walk 135 = .ok (.imul, 1) := by decide +kernel
theorem dX11_walk_136 : decode cX11_walk 136 = .ok (.iload 4, 2) := by decide +kernel
theorem dX11_walk_138 : decode cX11_walk 138 = .ok (.iadd, 1) := by decide +kernel
theorem dX11_walk_139 : decode cX11_walk 139 = .ok (.aload_n 0, 1) := by decide +kernel
theorem dX11_walk_140 : decode cX11_walk 140 = .ok (.getfield 71, 3) := by decide +kernel
theorem dX11_walk_143 : decode cX11_walk 143 = .ok (.iload 4, 2) := by decide +kernel
theorem dX11_walk_145 : decode cX11_walk 145 = .ok (.baload, 1) := by decide +kernel
theorem dX11_walk_146 : decode cX11_walk 146 = .ok (.bastore, 1) := by decide +kernel
theorem dX11_walk_147 : decode cX11_walk 147 = .ok (.iinc 4 1, 3) := by decide +kernel
theorem dX11_walk_150 : decode cX11_walk 150 = .ok (.goto (-31), 3) := by decide +kernel
theorem dX11_walk_153 : decode cX11_walk 153 = .ok (.aload_n 0, 1) := by decide +kernel
theorem dX11_walk_154 : decode cX11_walk 154 = .ok (.getfield 270, 3) := by decide +kernel
theorem dX11_walk_157 : decode cX11_walk 157 = .ok (.ireturn, 1) := by decide +kernel


theorem cf_X11_factOf : xCF yX11_factOf cX11_factOf 1 (some .int) 1 := ⟨xq 1497 (by decide +kernel) rfl, xq 179 (by decide +kernel) rfl, by decide +kernel⟩
theorem cf_X11_notes : xCF yX11_notes cX11_notes 3 none 2 := ⟨xq 1494 (by decide +kernel) rfl, xq 179 (by decide +kernel) rfl, by decide +kernel⟩
theorem cf_X11_opens : xCF yX11_opens cX11_opens 2 (some .boolean) 1 := ⟨xq 1481 (by decide +kernel) rfl, xq 179 (by decide +kernel) rfl, by decide +kernel⟩
theorem cf_X11_readsNumber : xCF yX11_readsNumber cX11_readsNumber 2 (some .boolean) 0 := ⟨xq 1490 (by decide +kernel) rfl, xq 179 (by decide +kernel) rfl, by decide +kernel⟩
theorem cf_X11_waitTop : xCF yX11_waitTop cX11_waitTop 1 (some .int) 0 := ⟨xq 1508 (by decide +kernel) rfl, xq 179 (by decide +kernel) rfl, by decide +kernel⟩
theorem wq118 : Cond.selects yX11_opens.cls yX11_opens yX11_opens ∈ xTB := xq 118 (by decide +kernel) rfl
theorem wq120 : Cond.selects yX11_readsNumber.cls yX11_readsNumber yX11_readsNumber ∈ xTB := xq 120 (by decide +kernel) rfl
theorem wq121 : Cond.selects yX11_notes.cls yX11_notes yX11_notes ∈ xTB := xq 121 (by decide +kernel) rfl
theorem wq123 : Cond.selects yX11_waitTop.cls yX11_waitTop yX11_waitTop ∈ xTB := xq 123 (by decide +kernel) rfl
theorem wq1478 : Cond.methodLink "ShadowCourtModel" (211) yX11_opens ∈ xTB := xq 1478 (by decide +kernel) rfl
theorem wq1480 : Cond.instanceMethod yX11_opens ∈ xTB := xq 1480 (by decide +kernel) rfl
theorem wq1487 : Cond.methodLink "ShadowCourtModel" (214) yX11_readsNumber ∈ xTB := xq 1487 (by decide +kernel) rfl
theorem wq1489 : Cond.instanceMethod yX11_readsNumber ∈ xTB := xq 1489 (by decide +kernel) rfl
theorem wq1491 : Cond.methodLink "ShadowCourtModel" (207) yX11_notes ∈ xTB := xq 1491 (by decide +kernel) rfl
theorem wq1493 : Cond.instanceMethod yX11_notes ∈ xTB := xq 1493 (by decide +kernel) rfl
theorem wq1495 : Cond.methodLink "ShadowCourtModel" (217) yX11_factOf ∈ xTB := xq 1495 (by decide +kernel) rfl
theorem wq1496 : Cond.static yX11_factOf ∈ xTB := xq 1496 (by decide +kernel) rfl
theorem wq1505 : Cond.methodLink "ShadowCourtModel" (204) yX11_waitTop ∈ xTB := xq 1505 (by decide +kernel) rfl
theorem wq1507 : Cond.instanceMethod yX11_waitTop ∈ xTB := xq 1507 (by decide +kernel) rfl
theorem dX11_closesSums_0 : decode cX11_closesSums 0 = .ok (.aload_n 0, 1) := by decide +kernel
theorem dX11_closesSums_1 : decode cX11_closesSums 1 = .ok (.invokevirtual 204, 3) := by decide +kernel
theorem dX11_closesSums_4 : decode cX11_closesSums 4 = .ok (.iconst 4, 1) := by decide +kernel
theorem dX11_closesSums_5 : decode cX11_closesSums 5 = .ok (.if_icmp .lt 12, 3) := by decide +kernel
theorem dX11_closesSums_8 : decode cX11_closesSums 8 = .ok (.aload_n 0, 1) := by decide +kernel
theorem dX11_closesSums_9 : decode cX11_closesSums 9 = .ok (.invokevirtual 204, 3) := by decide +kernel
theorem dX11_closesSums_12 : decode cX11_closesSums 12 = .ok (.bipush 6, 2) := by decide +kernel
theorem dX11_closesSums_14 : decode cX11_closesSums 14 = .ok (.if_icmp .le 23, 3) := by decide +kernel
theorem dX11_closesSums_17 : decode cX11_closesSums 17 = .ok (.iload_n 1, 1) := by decide +kernel
theorem dX11_closesSums_18 : decode cX11_closesSums 18 = .ok (.ifCond .eq 41, 3) := by decide +kernel
theorem dX11_closesSums_21 : decode cX11_closesSums 21 = .ok (.aload_n 0, 1) := by decide +kernel
theorem dX11_closesSums_22 : decode cX11_closesSums 22 = .ok (.invokevirtual 204, 3) := by decide +kernel
theorem dX11_closesSums_25 : decode cX11_closesSums 25 = .ok (.iconst 2, 1) := by decide +kernel
theorem dX11_closesSums_26 : decode cX11_closesSums 26 = .ok (.if_icmp .eq 11, 3) := by decide +kernel
theorem dX11_closesSums_29 : decode cX11_closesSums 29 = .ok (.aload_n 0, 1) := by decide +kernel
theorem dX11_closesSums_30 : decode cX11_closesSums 30 = .ok (.invokevirtual 204, 3) := by decide +kernel
theorem dX11_closesSums_33 : decode cX11_closesSums 33 = .ok (.iconst 3, 1) := by decide +kernel
theorem dX11_closesSums_34 : decode cX11_closesSums 34 = .ok (.if_icmp .ne 25, 3) := by decide +kernel
theorem dX11_closesSums_37 : decode cX11_closesSums 37 = .ok (.aload_n 0, 1) := by decide +kernel
theorem dX11_closesSums_38 : decode cX11_closesSums 38 = .ok (.aload_n 0, 1) := by decide +kernel
theorem dX11_closesSums_39 : decode cX11_closesSums 39 = .ok (.invokevirtual 204, 3) := by decide +kernel
theorem dX11_closesSums_42 : decode cX11_closesSums 42 = .ok (.iconst 0, 1) := by decide +kernel
theorem dX11_closesSums_43 : decode cX11_closesSums 43 = .ok (.invokevirtual 207, 3) := by decide +kernel
theorem dX11_closesSums_46 : decode cX11_closesSums 46 = .ok (.aload_n 0, 1) := by decide +kernel
theorem dX11_closesSums_47 : decode cX11_closesSums 47 = .ok (.aload_n 0, 1) := by decide +kernel
theorem dX11_closesSums_48 : decode cX11_closesSums 48 = .ok (.getfield 201, 3) := by decide +kernel
theorem dX11_closesSums_51 : decode cX11_closesSums 51 = .ok (.iconst 1, 1) := by decide +kernel
theorem dX11_closesSums_52 : decode cX11_closesSums 52 = .ok (.isub, 1) := by decide +kernel
theorem dX11_closesSums_53 : decode cX11_closesSums 53 = .ok (.putfield 201, 3) := by decide +kernel
theorem dX11_closesSums_56 : decode cX11_closesSums 56 = .ok (.goto (-56), 3) := by decide +kernel
theorem dX11_closesSums_59 : decode cX11_closesSums 59 = .ok (.return_, 1) := by decide +kernel
theorem dX11_hasOpenSum_0 : decode cX11_hasOpenSum 0 = .ok (.iload_n 1, 1) := by decide +kernel
theorem dX11_hasOpenSum_1 : decode cX11_hasOpenSum 1 = .ok (.istore_n 2, 1) := by decide +kernel
theorem dX11_hasOpenSum_2 : decode cX11_hasOpenSum 2 = .ok (.iload_n 2, 1) := by decide +kernel
theorem dX11_hasOpenSum_3 : decode cX11_hasOpenSum 3 = .ok (.aload_n 0, 1) := by decide +kernel
theorem dX11_hasOpenSum_4 : decode cX11_hasOpenSum 4 = .ok (.getfield 201, 3) := by decide +kernel
theorem dX11_hasOpenSum_7 : decode cX11_hasOpenSum 7 = .ok (.if_icmp .ge 25, 3) := by decide +kernel
theorem dX11_hasOpenSum_10 : decode cX11_hasOpenSum 10 = .ok (.aload_n 0, 1) := by decide +kernel
theorem dX11_hasOpenSum_11 : decode cX11_hasOpenSum 11 = .ok (.getfield 38, 3) := by decide +kernel
theorem dX11_hasOpenSum_14 : decode cX11_hasOpenSum 14 = .ok (.iload_n 2, 1) := by decide +kernel
theorem dX11_hasOpenSum_15 : decode cX11_hasOpenSum 15 = .ok (.iaload, 1) := by decide +kernel
theorem dX11_hasOpenSum_16 : decode cX11_hasOpenSum 16 = .ok (.ldc 197, 2) := by decide +kernel
theorem dX11_hasOpenSum_18 : decode cX11_hasOpenSum 18 = .ok (.idiv, 1) := by decide +kernel
theorem dX11_hasOpenSum_19 : decode cX11_hasOpenSum 19 = .ok (.bipush 14, 2) := by decide +kernel
theorem dX11_hasOpenSum_21 : decode cX11_hasOpenSum 21 = .ok (.if_icmp .ne 5, 3) := by decide +kernel
theorem dX11_hasOpenSum_24 : decode cX11_hasOpenSum 24 = .ok (.iconst 1, 1) := by decide +kernel
theorem dX11_hasOpenSum_25 : decode cX11_hasOpenSum 25 = .ok (.ireturn, 1) := by decide +kernel
theorem dX11_hasOpenSum_26 : decode cX11_hasOpenSum 26 = .ok (.iinc 2 1, 3) := by decide +kernel
theorem dX11_hasOpenSum_29 : decode cX11_hasOpenSum 29 = .ok (.goto (-27), 3) := by decide +kernel
theorem dX11_hasOpenSum_32 : decode cX11_hasOpenSum 32 = .ok (.iconst 0, 1) := by decide +kernel
theorem dX11_hasOpenSum_33 : decode cX11_hasOpenSum 33 = .ok (.ireturn, 1) := by decide +kernel
theorem dX11_readsFactor_0 : decode cX11_readsFactor 0 = .ok (.aload_n 0, 1) := by decide +kernel
theorem dX11_readsFactor_1 : decode cX11_readsFactor 1 = .ok (.invokevirtual 177, 3) := by decide +kernel
theorem dX11_readsFactor_4 : decode cX11_readsFactor 4 = .ok (.bipush 91, 2) := by decide +kernel
theorem dX11_readsFactor_6 : decode cX11_readsFactor 6 = .ok (.if_icmp .ne 14, 3) := by decide +kernel
theorem dX11_readsFactor_9 : decode cX11_readsFactor 9 = .ok (.aload_n 0, 1) := by decide +kernel
theorem dX11_readsFactor_10 : decode cX11_readsFactor 10 = .ok (.bipush 14, 2) := by decide +kernel
theorem dX11_readsFactor_12 : decode cX11_readsFactor 12 = .ok (.invokevirtual 211, 3) := by decide +kernel
theorem dX11_readsFactor_15 : decode cX11_readsFactor 15 = .ok (.ifCond .ne (-15), 3) := by decide +kernel
theorem dX11_readsFactor_18 : decode cX11_readsFactor 18 = .ok (.iconst 0, 1) := by decide +kernel
theorem dX11_readsFactor_19 : decode cX11_readsFactor 19 = .ok (.ireturn, 1) := by decide +kernel
theorem dX11_readsFactor_20 : decode cX11_readsFactor 20 = .ok (.aload_n 0, 1) := by decide +kernel
theorem dX11_readsFactor_21 : decode cX11_readsFactor 21 = .ok (.invokevirtual 190, 3) := by decide +kernel
theorem dX11_readsFactor_24 : decode cX11_readsFactor 24 = .ok (.ifCond .eq 23, 3) := by decide +kernel
theorem dX11_readsFactor_27 : decode cX11_readsFactor 27 = .ok (.aload_n 0, 1) := by decide +kernel
theorem dX11_readsFactor_28 : decode cX11_readsFactor 28 = .ok (.invokevirtual 214, 3) := by decide +kernel
theorem dX11_readsFactor_31 : decode cX11_readsFactor 31 = .ok (.ifCond .ne 5, 3) := by decide +kernel
theorem dX11_readsFactor_34 : decode cX11_readsFactor 34 = .ok (.iconst 0, 1) := by decide +kernel
theorem dX11_readsFactor_35 : decode cX11_readsFactor 35 = .ok (.ireturn, 1) := by decide +kernel
theorem dX11_readsFactor_36 : decode cX11_readsFactor 36 = .ok (.aload_n 0, 1) := by decide +kernel
theorem dX11_readsFactor_37 : decode cX11_readsFactor 37 = .ok (.iconst 0, 1) := by decide +kernel
theorem dX11_readsFactor_38 : decode cX11_readsFactor 38 = .ok (.aload_n 0, 1) := by decide +kernel
theorem dX11_readsFactor_39 : decode cX11_readsFactor 39 = .ok (.getfield 187, 3) := by decide +kernel
theorem dX11_readsFactor_42 : decode cX11_readsFactor 42 = .ok (.invokevirtual 207, 3) := by decide +kernel
theorem dX11_readsFactor_45 : decode cX11_readsFactor 45 = .ok (.iconst 1, 1) := by decide +kernel
theorem dX11_readsFactor_46 : decode cX11_readsFactor 46 = .ok (.ireturn, 1) := by decide +kernel
theorem dX11_readsFactor_47 : decode cX11_readsFactor 47 = .ok (.aload_n 0, 1) := by decide +kernel
theorem dX11_readsFactor_48 : decode cX11_readsFactor 48 = .ok (.invokevirtual 177, 3) := by decide +kernel
theorem dX11_readsFactor_51 : decode cX11_readsFactor 51 = .ok (.invokestatic 217, 3) := by decide +kernel
theorem dX11_readsFactor_54 : decode cX11_readsFactor 54 = .ok (.istore_n 1, 1) := by decide +kernel
theorem dX11_readsFactor_55 : decode cX11_readsFactor 55 = .ok (.iload_n 1, 1) := by decide +kernel
theorem dX11_readsFactor_56 : decode cX11_readsFactor 56 = .ok (.iconst (-1), 1) := by decide +kernel
theorem dX11_readsFactor_57 : decode cX11_readsFactor 57 = .ok (.if_icmp .ne 13, 3) := by decide +kernel
theorem dX11_readsFactor_60 : decode cX11_readsFactor 60 = .ok (.aload_n 0, 1) := by decide +kernel
theorem dX11_readsFactor_61 : decode cX11_readsFactor 61 = .ok (.iconst 1, 1) := by decide +kernel
theorem dX11_readsFactor_62 : decode cX11_readsFactor 62 = .ok (.aload_n 0, 1) := by decide +kernel
theorem dX11_readsFactor_63 : decode cX11_readsFactor 63 = .ok (.getfield 171, 3) := by decide +kernel
theorem dX11_readsFactor_66 : decode cX11_readsFactor 66 = .ok (.invokevirtual 184, 3) := by decide +kernel
theorem dX11_readsFactor_69 : decode cX11_readsFactor 69 = .ok (.ireturn, 1) := by decide +kernel
theorem dX11_readsFactor_70 : decode cX11_readsFactor 70 = .ok (.aload_n 0, 1) := by decide +kernel
theorem dX11_readsFactor_71 : decode cX11_readsFactor 71 = .ok (.iconst 1, 1) := by decide +kernel
theorem dX11_readsFactor_72 : decode cX11_readsFactor 72 = .ok (.iload_n 1, 1) := by decide +kernel
theorem dX11_readsFactor_73 : decode cX11_readsFactor 73 = .ok (.invokevirtual 207, 3) := by decide +kernel
theorem dX11_readsFactor_76 : decode cX11_readsFactor 76 = .ok (.aload_n 0, 1) := by decide +kernel
theorem dX11_readsFactor_77 : decode cX11_readsFactor 77 = .ok (.aload_n 0, 1) := by decide +kernel
theorem dX11_readsFactor_78 : decode cX11_readsFactor 78 = .ok (.getfield 171, 3) := by decide +kernel
theorem dX11_readsFactor_81 : decode cX11_readsFactor 81 = .ok (.iconst 1, 1) := by decide +kernel
theorem dX11_readsFactor_82 : decode cX11_readsFactor 82 = .ok (.iadd, 1) := by decide +kernel
theorem dX11_readsFactor_83 : decode cX11_readsFactor 83 = .ok (.putfield 171, 3) := by decide +kernel
theorem dX11_readsFactor_86 : decode cX11_readsFactor 86 = .ok (.iconst 1, 1) := by decide +kernel
theorem dX11_readsFactor_87 : decode cX11_readsFactor 87 = .ok (.ireturn, 1) := by decide +kernel


theorem cf_X11_closesSums : xCF yX11_closesSums cX11_closesSums 2 none 1 := ⟨xq 1504 (by decide +kernel) rfl, xq 179 (by decide +kernel) rfl, by decide +kernel⟩
theorem cf_X11_hasOpenSum : xCF yX11_hasOpenSum cX11_hasOpenSum 3 (some .boolean) 1 := ⟨xq 1512 (by decide +kernel) rfl, xq 179 (by decide +kernel) rfl, by decide +kernel⟩
theorem cf_X11_readsFactor : xCF yX11_readsFactor cX11_readsFactor 2 (some .boolean) 0 := ⟨xq 1477 (by decide +kernel) rfl, xq 179 (by decide +kernel) rfl, by decide +kernel⟩
theorem cf_X11_sumSign : xCF yX11_sumSign cX11_sumSign 1 (some .int) 1 := ⟨xq 1500 (by decide +kernel) rfl, xq 179 (by decide +kernel) rfl, by decide +kernel⟩
theorem wq117 : Cond.selects yX11_readsFactor.cls yX11_readsFactor yX11_readsFactor ∈ xTB := xq 117 (by decide +kernel) rfl
theorem wq122 : Cond.selects yX11_closesSums.cls yX11_closesSums yX11_closesSums ∈ xTB := xq 122 (by decide +kernel) rfl
theorem wq124 : Cond.selects yX11_hasOpenSum.cls yX11_hasOpenSum yX11_hasOpenSum ∈ xTB := xq 124 (by decide +kernel) rfl
theorem wq1474 : Cond.methodLink "ShadowCourtModel" (220) yX11_readsFactor ∈ xTB := xq 1474 (by decide +kernel) rfl
theorem wq1476 : Cond.instanceMethod yX11_readsFactor ∈ xTB := xq 1476 (by decide +kernel) rfl
theorem wq1498 : Cond.methodLink "ShadowCourtModel" (223) yX11_sumSign ∈ xTB := xq 1498 (by decide +kernel) rfl
theorem wq1499 : Cond.static yX11_sumSign ∈ xTB := xq 1499 (by decide +kernel) rfl
theorem wq1501 : Cond.methodLink "ShadowCourtModel" (226) yX11_closesSums ∈ xTB := xq 1501 (by decide +kernel) rfl
theorem wq1503 : Cond.instanceMethod yX11_closesSums ∈ xTB := xq 1503 (by decide +kernel) rfl
theorem wq1509 : Cond.methodLink "ShadowCourtModel" (230) yX11_hasOpenSum ∈ xTB := xq 1509 (by decide +kernel) rfl
theorem wq1511 : Cond.instanceMethod yX11_hasOpenSum ∈ xTB := xq 1511 (by decide +kernel) rfl
theorem dX11_readsSum_0 : decode cX11_readsSum 0 = .ok (.aload_n 0, 1) := by decide +kernel
theorem dX11_readsSum_1 : decode cX11_readsSum 1 = .ok (.getfield 201, 3) := by decide +kernel
theorem dX11_readsSum_4 : decode cX11_readsSum 4 = .ok (.istore_n 1, 1) := by decide +kernel
theorem dX11_readsSum_5 : decode cX11_readsSum 5 = .ok (.aload_n 0, 1) := by decide +kernel
theorem dX11_readsSum_6 : decode cX11_readsSum 6 = .ok (.invokevirtual 220, 3) := by decide +kernel
theorem dX11_readsSum_9 : decode cX11_readsSum 9 = .ok (.ifCond .ne 5, 3) := by decide +kernel
theorem dX11_readsSum_12 : decode cX11_readsSum 12 = .ok (.iconst 0, 1) := by decide +kernel
theorem dX11_readsSum_13 : decode cX11_readsSum 13 = .ok (.ireturn, 1) := by decide +kernel
theorem dX11_readsSum_14 : decode cX11_readsSum 14 = .ok (.aload_n 0, 1) := by decide +kernel
theorem dX11_readsSum_15 : decode cX11_readsSum 15 = .ok (.invokevirtual 177, 3) := by decide +kernel
theorem dX11_readsSum_18 : decode cX11_readsSum 18 = .ok (.invokestatic 223, 3) := by decide +kernel
theorem dX11_readsSum_21 : decode cX11_readsSum 21 = .ok (.istore_n 2, 1) := by decide +kernel
theorem dX11_readsSum_22 : decode cX11_readsSum 22 = .ok (.iload_n 2, 1) := by decide +kernel
theorem dX11_readsSum_23 : decode cX11_readsSum 23 = .ok (.iconst (-1), 1) := by decide +kernel
theorem dX11_readsSum_24 : decode cX11_readsSum 24 = .ok (.if_icmp .eq 59, 3) := by decide +kernel
theorem dX11_readsSum_27 : decode cX11_readsSum 27 = .ok (.aload_n 0, 1) := by decide +kernel
theorem dX11_readsSum_28 : decode cX11_readsSum 28 = .ok (.iload_n 2, 1) := by decide +kernel
theorem dX11_readsSum_29 : decode cX11_readsSum 29 = .ok (.iconst 4, 1) := by decide +kernel
theorem dX11_readsSum_30 : decode cX11_readsSum 30 = .ok (.if_icmp .ge 7, 3) := by decide +kernel
theorem dX11_readsSum_33 : decode cX11_readsSum 33 = .ok (.iconst 1, 1) := by decide +kernel
theorem dX11_readsSum_34 : decode cX11_readsSum 34 = .ok (.goto 4, 3) := by decide +kernel
theorem dX11_readsSum_37 : decode cX11_readsSum 37 = .ok (.iconst 0, 1) := by decide +kernel
theorem dX11_readsSum_38 : decode cX11_readsSum 38 = .ok (.invokevirtual 226, 3) := by decide +kernel
theorem dX11_readsSum_41 : decode cX11_readsSum 41 = .ok (.aload_n 0, 1) := by decide +kernel
theorem dX11_readsSum_42 : decode cX11_readsSum 42 = .ok (.getfield 38, 3) := by decide +kernel
theorem dX11_readsSum_45 : decode cX11_readsSum 45 = .ok (.aload_n 0, 1) := by decide +kernel
theorem dX11_readsSum_46 : decode cX11_readsSum 46 = .ok (.getfield 201, 3) := by decide +kernel
theorem dX11_readsSum_49 : decode cX11_readsSum 49 = .ok (.ldc 197, 2) := by decide +kernel
theorem dX11_readsSum_51 : decode cX11_readsSum 51 = .ok (.iload_n 2, 1) := by decide +kernel
theorem dX11_readsSum_52 : decode cX11_readsSum 52 = .ok (.imul, 1) := by decide +kernel
theorem dX11_readsSum_53 : decode cX11_readsSum 53 = .ok (.iastore, 1) := by decide +kernel
theorem dX11_readsSum_54 : decode cX11_readsSum 54 = .ok (.aload_n 0, 1) := by decide +kernel
theorem dX11_readsSum_55 : decode cX11_readsSum 55 = .ok (.aload_n 0, 1) := by decide +kernel
theorem dX11_readsSum_56 : decode cX11_readsSum 56 = .ok (.getfield 201, 3) := by decide +kernel
theorem dX11_readsSum_59 : decode cX11_readsSum 59 = .ok (.iconst 1, 1) := by decide +kernel
theorem dX11_readsSum_60 : decode cX11_readsSum 60 = .ok (.iadd, 1) := by decide +kernel
theorem dX11_readsSum_61 : decode cX11_readsSum 61 = .ok (.putfield 201, 3) := by decide +kernel
theorem dX11_readsSum_64 : decode cX11_readsSum 64 = .ok (.aload_n 0, 1) := by decide +kernel
theorem dX11_readsSum_65 : decode cX11_readsSum 65 = .ok (.aload_n 0, 1) := by decide +kernel
theorem dX11_readsSum_66 : decode cX11_readsSum 66 = .ok (.getfield 171, 3) := by decide +kernel
theorem dX11_readsSum_69 : decode cX11_readsSum 69 = .ok (.iconst 1, 1) := by decide +kernel
theorem dX11_readsSum_70 : decode cX11_readsSum 70 = .ok (.iadd, 1) := by decide +kernel
theorem dX11_readsSum_71 : decode cX11_readsSum 71 = .ok (.putfield 171, 3) := by decide +kernel
theorem dX11_readsSum_74 : decode cX11_readsSum 74 = .ok (.aload_n 0, 1) := by decide +kernel
theorem dX11_readsSum_75 : decode cX11_readsSum 75 = .ok (.invokevirtual 220, 3) := by decide +kernel
theorem dX11_readsSum_78 : decode cX11_readsSum 78 = .ok (.ifCond .ne 85, 3) := by decide +kernel
theorem dX11_readsSum_81 : decode cX11_readsSum 81 = .ok (.iconst 0, 1) := by decide +kernel
theorem dX11_readsSum_82 : decode cX11_readsSum 82 = .ok (.ireturn, 1) := by decide +kernel
theorem dX11_readsSum_83 : decode cX11_readsSum 83 = .ok (.aload_n 0, 1) := by decide +kernel
theorem dX11_readsSum_84 : decode cX11_readsSum 84 = .ok (.invokevirtual 177, 3) := by decide +kernel
theorem dX11_readsSum_87 : decode cX11_readsSum 87 = .ok (.bipush 93, 2) := by decide +kernel
theorem dX11_readsSum_89 : decode cX11_readsSum 89 = .ok (.if_icmp .ne 49, 3) := by decide +kernel
theorem dX11_readsSum_92 : decode cX11_readsSum 92 = .ok (.aload_n 0, 1) := by decide +kernel
theorem dX11_readsSum_93 : decode cX11_readsSum 93 = .ok (.iload_n 1, 1) := by decide +kernel
theorem dX11_readsSum_94 : decode cX11_readsSum 94 = .ok (.invokevirtual 230, 3) := by decide +kernel
theorem dX11_readsSum_97 : decode cX11_readsSum 97 = .ok (.ifCond .eq 41, 3) := by decide +kernel
theorem dX11_readsSum_100 : decode cX11_readsSum 100 = .ok (.aload_n 0, 1) := by decide +kernel
theorem dX11_readsSum_101 : decode cX11_readsSum 101 = .ok (.iconst 1, 1) := by decide +kernel
theorem dX11_readsSum_102 : decode cX11_readsSum 102 = .ok (.invokevirtual 226, 3) := by decide +kernel
theorem dX11_readsSum_105 : decode cX11_readsSum 105 = .ok (.aload_n 0, 1) := by decide +kernel
theorem dX11_readsSum_106 : decode cX11_readsSum 106 = .ok (.aload_n 0, 1) := by decide +kernel
theorem dX11_readsSum_107 : decode cX11_readsSum 107 = .ok (.getfield 201, 3) := by decide +kernel
theorem dX11_readsSum_110 : decode cX11_readsSum 110 = .ok (.iconst 1, 1) := by decide +kernel
theorem dX11_readsSum_111 : decode cX11_readsSum 111 = .ok (.isub, 1) := by decide +kernel
theorem dX11_readsSum_112 : decode cX11_readsSum 112 = .ok (.putfield 201, 3) := by decide +kernel
theorem dX11_readsSum_115 : decode cX11_readsSum 115 = .ok (.aload_n 0, 1) := by decide +kernel
theorem dX11_readsSum_116 : decode cX11_readsSum 116 = .ok (.aload_n 0, 1) := by decide +kernel
theorem dX11_readsSum_117 : decode cX11_readsSum 117 = .ok (.getfield 198, 3) := by decide +kernel
theorem dX11_readsSum_120 : decode cX11_readsSum 120 = .ok (.iconst 1, 1) := by decide +kernel
theorem dX11_readsSum_121 : decode cX11_readsSum 121 = .ok (.isub, 1) := by decide +kernel
theorem dX11_readsSum_122 : decode cX11_readsSum 122 = .ok (.putfield 198, 3) := by decide +kernel
theorem dX11_readsSum_125 : decode cX11_readsSum 125 = .ok (.aload_n 0, 1) := by decide +kernel
theorem dX11_readsSum_126 : decode cX11_readsSum 126 = .ok (.aload_n 0, 1) := by decide +kernel
theorem dX11_readsSum_127 : decode cX11_readsSum 127 = .ok (.getfield 171, 3) := by decide +kernel
theorem dX11_readsSum_130 : decode cX11_readsSum 130 = .ok (.iconst 1, 1) := by decide +kernel
theorem dX11_readsSum_131 : decode cX11_readsSum 131 = .ok (.iadd, 1) := by decide +kernel
theorem dX11_readsSum_132 : decode cX11_readsSum 132 = .ok (.putfield 171, 3) := by decide +kernel
theorem dX11_readsSum_135 : decode cX11_readsSum 135 = .ok (.goto 28, 3) := by decide +kernel
theorem dX11_readsSum_138 : decode cX11_readsSum 138 = .ok (.aload_n 0, 1) := by decide +kernel
theorem dX11_readsSum_139 : decode cX11_readsSum 139 = .ok (.iload_n 1, 1) := by decide +kernel
theorem dX11_readsSum_140 : decode cX11_readsSum 140 = .ok (.invokevirtual 230, 3) := by decide +kernel
theorem dX11_readsSum_143 : decode cX11_readsSum 143 = .ok (.ifCond .eq 13, 3) := by decide +kernel
theorem dX11_readsSum_146 : decode cX11_readsSum 146 = .ok (.aload_n 0, 1) := by decide +kernel
theorem dX11_readsSum_147 : decode cX11_readsSum 147 = .ok (.iconst 1, 1) := by decide +kernel
theorem dX11_readsSum_148 : decode cX11_readsSum 148 = .ok (.aload_n 0, 1) := by decide +kernel
theorem dX11_readsSum_149 : decode cX11_readsSum 149 = .ok (.getfield 171, 3) := by decide +kernel
theorem dX11_readsSum_152 : decode cX11_readsSum 152 = .ok (.invokevirtual 184, 3) := by decide +kernel
theorem dX11_readsSum_155 : decode cX11_readsSum 155 = .ok (.ireturn, 1) := by decide +kernel
theorem dX11_readsSum_156 : decode cX11_readsSum 156 = .ok (.aload_n 0, 1) := by decide +kernel
theorem dX11_readsSum_157 : decode cX11_readsSum 157 = .ok (.iconst 1, 1) := by decide +kernel
theorem dX11_readsSum_158 : decode cX11_readsSum 158 = .ok (.invokevirtual 226, 3) := by decide +kernel
theorem dX11_readsSum_161 : decode cX11_readsSum 161 = .ok (.iconst 1, 1) := by decide +kernel
theorem dX11_readsSum_162 : decode cX11_readsSum 162 = .ok (.ireturn, 1) := by decide +kernel
theorem dX11_readsSum_163 : decode cX11_readsSum 163 = .ok (.goto (-149), 3) := by decide +kernel


theorem cf_X11_endsPiece : xCF yX11_endsPiece cX11_endsPiece 1 none 0 := ⟨xq 1524 (by decide +kernel) rfl, xq 179 (by decide +kernel) rfl, by decide +kernel⟩
theorem cf_X11_readsSum : xCF yX11_readsSum cX11_readsSum 3 (some .boolean) 0 := ⟨xq 1473 (by decide +kernel) rfl, xq 179 (by decide +kernel) rfl, by decide +kernel⟩
theorem wq116 : Cond.selects yX11_readsSum.cls yX11_readsSum yX11_readsSum ∈ xTB := xq 116 (by decide +kernel) rfl
theorem wq127 : Cond.selects yX11_endsPiece.cls yX11_endsPiece yX11_endsPiece ∈ xTB := xq 127 (by decide +kernel) rfl
theorem wq1470 : Cond.methodLink "ShadowCourtModel" (233) yX11_readsSum ∈ xTB := xq 1470 (by decide +kernel) rfl
theorem wq1472 : Cond.instanceMethod yX11_readsSum ∈ xTB := xq 1472 (by decide +kernel) rfl
theorem wq1521 : Cond.methodLink "ShadowCourtModel" (236) yX11_endsPiece ∈ xTB := xq 1521 (by decide +kernel) rfl
theorem wq1523 : Cond.instanceMethod yX11_endsPiece ∈ xTB := xq 1523 (by decide +kernel) rfl
theorem dX11_endsPiece_0 : decode cX11_endsPiece 0 = .ok (.aload_n 0, 1) := by decide +kernel
theorem dX11_endsPiece_1 : decode cX11_endsPiece 1 = .ok (.invokevirtual 204, 3) := by decide +kernel
theorem dX11_endsPiece_4 : decode cX11_endsPiece 4 = .ok (.bipush 10, 2) := by decide +kernel
theorem dX11_endsPiece_6 : decode cX11_endsPiece 6 = .ok (.if_icmp .ne 33, 3) := by decide +kernel
theorem dX11_endsPiece_9 : decode cX11_endsPiece 9 = .ok (.aload_n 0, 1) := by decide +kernel
theorem dX11_endsPiece_10 : decode cX11_endsPiece 10 = .ok (.bipush 10, 2) := by decide +kernel
theorem dX11_endsPiece_12 : decode cX11_endsPiece 12 = .ok (.iconst 0, 1) := by decide +kernel
theorem dX11_endsPiece_13 : decode cX11_endsPiece 13 = .ok (.invokevirtual 207, 3) := by decide +kernel
theorem dX11_endsPiece_16 : decode cX11_endsPiece 16 = .ok (.aload_n 0, 1) := by decide +kernel
theorem dX11_endsPiece_17 : decode cX11_endsPiece 17 = .ok (.aload_n 0, 1) := by decide +kernel
theorem dX11_endsPiece_18 : decode cX11_endsPiece 18 = .ok (.getfield 201, 3) := by decide +kernel
theorem dX11_endsPiece_21 : decode cX11_endsPiece 21 = .ok (.iconst 1, 1) := by decide +kernel
theorem dX11_endsPiece_22 : decode cX11_endsPiece 22 = .ok (.isub, 1) := by decide +kernel
theorem dX11_endsPiece_23 : decode cX11_endsPiece 23 = .ok (.putfield 201, 3) := by decide +kernel
theorem dX11_endsPiece_26 : decode cX11_endsPiece 26 = .ok (.aload_n 0, 1) := by decide +kernel
theorem dX11_endsPiece_27 : decode cX11_endsPiece 27 = .ok (.aload_n 0, 1) := by decide +kernel
theorem dX11_endsPiece_28 : decode cX11_endsPiece 28 = .ok (.getfield 198, 3) := by decide +kernel
theorem dX11_endsPiece_31 : decode cX11_endsPiece 31 = .ok (.iconst 1, 1) := by decide +kernel
theorem dX11_endsPiece_32 : decode cX11_endsPiece 32 = .ok (.isub, 1) := by decide +kernel
theorem dX11_endsPiece_33 : decode cX11_endsPiece 33 = .ok (.putfield 198, 3) := by decide +kernel
theorem dX11_endsPiece_36 : decode cX11_endsPiece 36 = .ok (.goto (-36), 3) := by decide +kernel
theorem dX11_endsPiece_39 : decode cX11_endsPiece 39 = .ok (.return_, 1) := by decide +kernel
theorem dX11_jumps_0 : decode cX11_jumps 0 = .ok (.aload_n 0, 1) := by decide +kernel
theorem dX11_jumps_1 : decode cX11_jumps 1 = .ok (.getfield 38, 3) := by decide +kernel
theorem dX11_jumps_4 : decode cX11_jumps 4 = .ok (.aload_n 0, 1) := by decide +kernel
theorem dX11_jumps_5 : decode cX11_jumps 5 = .ok (.getfield 201, 3) := by decide +kernel
theorem dX11_jumps_8 : decode cX11_jumps 8 = .ok (.ldc 197, 2) := by decide +kernel
theorem dX11_jumps_10 : decode cX11_jumps 10 = .ok (.iload_n 1, 1) := by decide +kernel
theorem dX11_jumps_11 : decode cX11_jumps 11 = .ok (.imul, 1) := by decide +kernel
theorem dX11_jumps_12 : decode cX11_jumps 12 = .ok (.aload_n 0, 1) := by decide +kernel
theorem dX11_jumps_13 : decode cX11_jumps 13 = .ok (.getfield 194, 3) := by decide +kernel
theorem dX11_jumps_16 : decode cX11_jumps 16 = .ok (.iadd, 1) := by decide +kernel
theorem dX11_jumps_17 : decode cX11_jumps 17 = .ok (.iastore, 1) := by decide +kernel
theorem dX11_jumps_18 : decode cX11_jumps 18 = .ok (.aload_n 0, 1) := by decide +kernel
theorem dX11_jumps_19 : decode cX11_jumps 19 = .ok (.aload_n 0, 1) := by decide +kernel
theorem dX11_jumps_20 : decode cX11_jumps 20 = .ok (.getfield 201, 3) := by decide +kernel
theorem dX11_jumps_23 : decode cX11_jumps 23 = .ok (.iconst 1, 1) := by decide +kernel
theorem dX11_jumps_24 : decode cX11_jumps 24 = .ok (.iadd, 1) := by decide +kernel
theorem dX11_jumps_25 : decode cX11_jumps 25 = .ok (.putfield 201, 3) := by decide +kernel
theorem dX11_jumps_28 : decode cX11_jumps 28 = .ok (.aload_n 0, 1) := by decide +kernel
theorem dX11_jumps_29 : decode cX11_jumps 29 = .ok (.iload_n 1, 1) := by decide +kernel
theorem dX11_jumps_30 : decode cX11_jumps 30 = .ok (.iconst 0, 1) := by decide +kernel
theorem dX11_jumps_31 : decode cX11_jumps 31 = .ok (.invokevirtual 207, 3) := by decide +kernel
theorem dX11_jumps_34 : decode cX11_jumps 34 = .ok (.aload_n 0, 1) := by decide +kernel
theorem dX11_jumps_35 : decode cX11_jumps 35 = .ok (.aload_n 0, 1) := by decide +kernel
theorem dX11_jumps_36 : decode cX11_jumps 36 = .ok (.getfield 171, 3) := by decide +kernel
theorem dX11_jumps_39 : decode cX11_jumps 39 = .ok (.iconst 1, 1) := by decide +kernel
theorem dX11_jumps_40 : decode cX11_jumps 40 = .ok (.iadd, 1) := by decide +kernel
theorem dX11_jumps_41 : decode cX11_jumps 41 = .ok (.putfield 171, 3) := by decide +kernel
theorem dX11_jumps_44 : decode cX11_jumps 44 = .ok (.return_, 1) := by decide +kernel
theorem dX11_lands_0 : decode cX11_lands 0 = .ok (.aload_n 0, 1) := by decide +kernel
theorem dX11_lands_1 : decode cX11_lands 1 = .ok (.invokevirtual 204, 3) := by decide +kernel
theorem dX11_lands_4 : decode cX11_lands 4 = .ok (.bipush 11, 2) := by decide +kernel
theorem dX11_lands_6 : decode cX11_lands 6 = .ok (.if_icmp .eq 16, 3) := by decide +kernel
theorem dX11_lands_9 : decode cX11_lands 9 = .ok (.iload_n 1, 1) := by decide +kernel
theorem dX11_lands_10 : decode cX11_lands 10 = .ok (.ifCond .eq 63, 3) := by decide +kernel
theorem dX11_lands_13 : decode cX11_lands 13 = .ok (.aload_n 0, 1) := by decide +kernel
theorem dX11_lands_14 : decode cX11_lands 14 = .ok (.invokevirtual 204, 3) := by decide +kernel
theorem dX11_lands_17 : decode cX11_lands 17 = .ok (.bipush 12, 2) := by decide +kernel
theorem dX11_lands_19 : decode cX11_lands 19 = .ok (.if_icmp .ne 54, 3) := by decide +kernel
theorem dX11_lands_22 : decode cX11_lands 22 = .ok (.aload_n 0, 1) := by decide +kernel
theorem dX11_lands_23 : decode cX11_lands 23 = .ok (.getfield 38, 3) := by decide +kernel
theorem dX11_lands_26 : decode cX11_lands 26 = .ok (.aload_n 0, 1) := by decide +kernel
theorem dX11_lands_27 : decode cX11_lands 27 = .ok (.getfield 201, 3) := by decide +kernel
theorem dX11_lands_30 : decode cX11_lands 30 = .ok (.iconst 1, 1) := by decide +kernel
theorem dX11_lands_31 : decode cX11_lands 31 = .ok (.isub, 1) := by decide +kernel
theorem dX11_lands_32 : decode cX11_lands 32 = .ok (.iaload, 1) := by decide +kernel
theorem dX11_lands_33 : decode cX11_lands 33 = .ok (.ldc 197, 2) := by decide +kernel
theorem dX11_lands_35 : decode cX11_lands 35 = .ok (.irem, 1) := by decide +kernel
theorem dX11_lands_36 : decode cX11_lands 36 = .ok (.istore_n 2, 1) := by decide +kernel
theorem dX11_lands_37 : decode cX11_lands 37 = .ok (.aload_n 0, 1) := by decide +kernel
theorem dX11_lands_38 : decode cX11_lands 38 = .ok (.getfield 35, 3) := by decide +kernel
theorem dX11_lands_41 : decode cX11_lands 41 = .ok (.iload_n 2, 1) := by decide +kernel
theorem dX11_lands_42 : decode cX11_lands 42 = .ok (.ldc 197, 2) := by decide +kernel
theorem dX11_lands_44 : decode cX11_lands 44 = .ok (.aload_n 0, 1) := by decide +kernel
theorem dX11_lands_45 : decode cX11_lands 45 = .ok (.getfield 35, 3) := by decide +kernel
theorem dX11_lands_48 : decode cX11_lands 48 = .ok (.iload_n 2, 1) := by decide +kernel
theorem dX11_lands_49 : decode cX11_lands 49 = .ok (.iaload, 1) := by decide +kernel
theorem dX11_lands_50 : decode cX11_lands 50 = .ok (.ldc 197, 2) := by decide +kernel
theorem dX11_lands_52 : decode cX11_lands 52 = .ok (.idiv, 1) := by decide +kernel
theorem dX11_lands_53 : decode cX11_lands 53 = .ok (.imul, 1) := by decide +kernel
theorem dX11_lands_54 : decode cX11_lands 54 = .ok (.aload_n 0, 1) := by decide +kernel
theorem dX11_lands_55 : decode cX11_lands 55 = .ok (.getfield 194, 3) := by decide +kernel
theorem dX11_lands_58 : decode cX11_lands 58 = .ok (.iadd, 1) := by decide +kernel
theorem dX11_lands_59 : decode cX11_lands 59 = .ok (.iastore, 1) := by decide +kernel
theorem dX11_lands_60 : decode cX11_lands 60 = .ok (.aload_n 0, 1) := by decide +kernel
theorem dX11_lands_61 : decode cX11_lands 61 = .ok (.aload_n 0, 1) := by decide +kernel
theorem dX11_lands_62 : decode cX11_lands 62 = .ok (.getfield 201, 3) := by decide +kernel
theorem dX11_lands_65 : decode cX11_lands 65 = .ok (.iconst 1, 1) := by decide +kernel
theorem dX11_lands_66 : decode cX11_lands 66 = .ok (.isub, 1) := by decide +kernel
theorem dX11_lands_67 : decode cX11_lands 67 = .ok (.putfield 201, 3) := by decide +kernel
theorem dX11_lands_70 : decode cX11_lands 70 = .ok (.goto (-70), 3) := by decide +kernel
theorem dX11_lands_73 : decode cX11_lands 73 = .ok (.return_, 1) := by decide +kernel
theorem dX11_readsCompared_0 : decode cX11_readsCompared 0 = .ok (.aload_n 0, 1) := by decide +kernel
theorem dX11_readsCompared_1 : decode cX11_readsCompared 1 = .ok (.invokevirtual 233, 3) := by decide +kernel
theorem dX11_readsCompared_4 : decode cX11_readsCompared 4 = .ok (.ifCond .ne 5, 3) := by decide +kernel
theorem dX11_readsCompared_7 : decode cX11_readsCompared 7 = .ok (.iconst 0, 1) := by decide +kernel
theorem dX11_readsCompared_8 : decode cX11_readsCompared 8 = .ok (.ireturn, 1) := by decide +kernel
theorem dX11_readsCompared_9 : decode cX11_readsCompared 9 = .ok (.aload_n 0, 1) := by decide +kernel
theorem dX11_readsCompared_10 : decode cX11_readsCompared 10 = .ok (.invokevirtual 177, 3) := by decide +kernel
theorem dX11_readsCompared_13 : decode cX11_readsCompared 13 = .ok (.bipush 60, 2) := by decide +kernel
theorem dX11_readsCompared_15 : decode cX11_readsCompared 15 = .ok (.if_icmp .ne 8, 3) := by decide +kernel
theorem dX11_readsCompared_18 : decode cX11_readsCompared 18 = .ok (.bipush 7, 2) := by decide +kernel
theorem dX11_readsCompared_20 : decode cX11_readsCompared 20 = .ok (.goto 32, 3) := by decide +kernel
theorem dX11_readsCompared_23 : decode cX11_readsCompared 23 = .ok (.aload_n 0, 1) := by decide +kernel
theorem dX11_readsCompared_24 : decode cX11_readsCompared 24 = .ok (.invokevirtual 177, 3) := by decide +kernel
theorem dX11_readsCompared_27 : decode cX11_readsCompared 27 = .ok (.bipush 62, 2) := by decide +kernel
theorem dX11_readsCompared_29 : decode cX11_readsCompared 29 = .ok (.if_icmp .ne 8, 3) := by decide +kernel
theorem dX11_readsCompared_32 : decode cX11_readsCompared 32 = .ok (.bipush 8, 2) := by decide +kernel
theorem dX11_readsCompared_34 : decode cX11_readsCompared 34 = .ok (.goto 18, 3) := by decide +kernel
theorem dX11_readsCompared_37 : decode cX11_readsCompared 37 = .ok (.aload_n 0, 1) := by decide +kernel
theorem dX11_readsCompared_38 : decode cX11_readsCompared 38 = .ok (.invokevirtual 177, 3) := by decide +kernel
theorem dX11_readsCompared_41 : decode cX11_readsCompared 41 = .ok (.bipush 61, 2) := by decide +kernel
theorem dX11_readsCompared_43 : decode cX11_readsCompared 43 = .ok (.if_icmp .ne 8, 3) := by decide +kernel
theorem dX11_readsCompared_46 : decode cX11_readsCompared 46 = .ok (.bipush 9, 2) := by decide +kernel
theorem dX11_readsCompared_48 : decode cX11_readsCompared 48 = .ok (.goto 4, 3) := by decide +kernel
theorem dX11_readsCompared_51 : decode cX11_readsCompared 51 = .ok (.iconst (-1), 1) := by decide +kernel
theorem dX11_readsCompared_52 : decode cX11_readsCompared 52 = .ok (.istore_n 1, 1) := by decide +kernel
theorem dX11_readsCompared_53 : decode cX11_readsCompared 53 = .ok (.iload_n 1, 1) := by decide +kernel
theorem dX11_readsCompared_54 : decode cX11_readsCompared 54 = .ok (.iconst (-1), 1) := by decide +kernel
theorem dX11_readsCompared_55 : decode cX11_readsCompared 55 = .ok (.if_icmp .ne 13, 3) := by decide +kernel
theorem dX11_readsCompared_58 : decode cX11_readsCompared 58 = .ok (.aload_n 0, 1) := by decide +kernel
theorem dX11_readsCompared_59 : decode cX11_readsCompared 59 = .ok (.iconst 1, 1) := by decide +kernel
theorem dX11_readsCompared_60 : decode cX11_readsCompared 60 = .ok (.aload_n 0, 1) := by decide +kernel
theorem dX11_readsCompared_61 : decode cX11_readsCompared 61 = .ok (.getfield 171, 3) := by decide +kernel
theorem dX11_readsCompared_64 : decode cX11_readsCompared 64 = .ok (.invokevirtual 184, 3) := by decide +kernel
theorem dX11_readsCompared_67 : decode cX11_readsCompared 67 = .ok (.ireturn, 1) := by decide +kernel
theorem dX11_readsCompared_68 : decode cX11_readsCompared 68 = .ok (.aload_n 0, 1) := by decide +kernel
theorem dX11_readsCompared_69 : decode cX11_readsCompared 69 = .ok (.aload_n 0, 1) := by decide +kernel
theorem dX11_readsCompared_70 : decode cX11_readsCompared 70 = .ok (.getfield 171, 3) := by decide +kernel
theorem dX11_readsCompared_73 : decode cX11_readsCompared 73 = .ok (.iconst 1, 1) := by decide +kernel
theorem dX11_readsCompared_74 : decode cX11_readsCompared 74 = .ok (.iadd, 1) := by decide +kernel
theorem dX11_readsCompared_75 : decode cX11_readsCompared 75 = .ok (.putfield 171, 3) := by decide +kernel
theorem dX11_readsCompared_78 : decode cX11_readsCompared 78 = .ok (.aload_n 0, 1) := by decide +kernel
theorem dX11_readsCompared_79 : decode cX11_readsCompared 79 = .ok (.invokevirtual 233, 3) := by decide +kernel
theorem dX11_readsCompared_82 : decode cX11_readsCompared 82 = .ok (.ifCond .ne 5, 3) := by decide +kernel
theorem dX11_readsCompared_85 : decode cX11_readsCompared 85 = .ok (.iconst 0, 1) := by decide +kernel
theorem dX11_readsCompared_86 : decode cX11_readsCompared 86 = .ok (.ireturn, 1) := by decide +kernel
theorem dX11_readsCompared_87 : decode cX11_readsCompared 87 = .ok (.aload_n 0, 1) := by decide +kernel
theorem dX11_readsCompared_88 : decode cX11_readsCompared 88 = .ok (.iload_n 1, 1) := by decide +kernel
theorem dX11_readsCompared_89 : decode cX11_readsCompared 89 = .ok (.iconst 0, 1) := by decide +kernel
theorem dX11_readsCompared_90 : decode cX11_readsCompared 90 = .ok (.invokevirtual 207, 3) := by decide +kernel
theorem dX11_readsCompared_93 : decode cX11_readsCompared 93 = .ok (.aload_n 0, 1) := by decide +kernel
theorem dX11_readsCompared_94 : decode cX11_readsCompared 94 = .ok (.invokevirtual 236, 3) := by decide +kernel
theorem dX11_readsCompared_97 : decode cX11_readsCompared 97 = .ok (.iconst 1, 1) := by decide +kernel
theorem dX11_readsCompared_98 : decode cX11_readsCompared 98 = .ok (.ireturn, 1) := by decide +kernel


theorem cf_X11_jumps : xCF yX11_jumps cX11_jumps 2 none 1 := ⟨xq 1532 (by decide +kernel) rfl, xq 179 (by decide +kernel) rfl, by decide +kernel⟩
theorem cf_X11_lands : xCF yX11_lands cX11_lands 3 none 1 := ⟨xq 1528 (by decide +kernel) rfl, xq 179 (by decide +kernel) rfl, by decide +kernel⟩
theorem cf_X11_readsCompared : xCF yX11_readsCompared cX11_readsCompared 2 (some .boolean) 0 := ⟨xq 1520 (by decide +kernel) rfl, xq 179 (by decide +kernel) rfl, by decide +kernel⟩
theorem wq126 : Cond.selects yX11_readsCompared.cls yX11_readsCompared yX11_readsCompared ∈ xTB := xq 126 (by decide +kernel) rfl
theorem wq128 : Cond.selects yX11_lands.cls yX11_lands yX11_lands ∈ xTB := xq 128 (by decide +kernel) rfl
theorem wq129 : Cond.selects yX11_jumps.cls yX11_jumps yX11_jumps ∈ xTB := xq 129 (by decide +kernel) rfl
theorem wq1517 : Cond.methodLink "ShadowCourtModel" (239) yX11_readsCompared ∈ xTB := xq 1517 (by decide +kernel) rfl
theorem wq1519 : Cond.instanceMethod yX11_readsCompared ∈ xTB := xq 1519 (by decide +kernel) rfl
theorem wq1525 : Cond.methodLink "ShadowCourtModel" (242) yX11_lands ∈ xTB := xq 1525 (by decide +kernel) rfl
theorem wq1527 : Cond.instanceMethod yX11_lands ∈ xTB := xq 1527 (by decide +kernel) rfl
theorem wq1529 : Cond.methodLink "ShadowCourtModel" (245) yX11_jumps ∈ xTB := xq 1529 (by decide +kernel) rfl
theorem wq1531 : Cond.instanceMethod yX11_jumps ∈ xTB := xq 1531 (by decide +kernel) rfl
theorem dX11_readsCondition_0 : decode cX11_readsCondition 0 = .ok (.aload_n 0, 1) := by decide +kernel
theorem dX11_readsCondition_1 : decode cX11_readsCondition 1 = .ok (.invokevirtual 177, 3) := by decide +kernel
theorem dX11_readsCondition_4 : decode cX11_readsCondition 4 = .ok (.bipush 40, 2) := by decide +kernel
theorem dX11_readsCondition_6 : decode cX11_readsCondition 6 = .ok (.if_icmp .eq 13, 3) := by decide +kernel
theorem dX11_readsCondition_9 : decode cX11_readsCondition 9 = .ok (.aload_n 0, 1) := by decide +kernel
theorem dX11_readsCondition_10 : decode cX11_readsCondition 10 = .ok (.iconst 1, 1) := by decide +kernel
theorem dX11_readsCondition_11 : decode cX11_readsCondition 11 = .ok (.aload_n 0, 1) := by decide +kernel
theorem dX11_readsCondition_12 : decode cX11_readsCondition 12 = .ok (.getfield 171, 3) := by decide +kernel
theorem dX11_readsCondition_15 : decode cX11_readsCondition 15 = .ok (.invokevirtual 184, 3) := by decide +kernel
theorem dX11_readsCondition_18 : decode cX11_readsCondition 18 = .ok (.ireturn, 1) := by decide +kernel
theorem dX11_readsCondition_19 : decode cX11_readsCondition 19 = .ok (.aload_n 0, 1) := by decide +kernel
theorem dX11_readsCondition_20 : decode cX11_readsCondition 20 = .ok (.iconst 0, 1) := by decide +kernel
theorem dX11_readsCondition_21 : decode cX11_readsCondition 21 = .ok (.putfield 198, 3) := by decide +kernel
theorem dX11_readsCondition_24 : decode cX11_readsCondition 24 = .ok (.aload_n 0, 1) := by decide +kernel
theorem dX11_readsCondition_25 : decode cX11_readsCondition 25 = .ok (.iconst 0, 1) := by decide +kernel
theorem dX11_readsCondition_26 : decode cX11_readsCondition 26 = .ok (.putfield 201, 3) := by decide +kernel
theorem dX11_readsCondition_29 : decode cX11_readsCondition 29 = .ok (.aload_n 0, 1) := by decide +kernel
theorem dX11_readsCondition_30 : decode cX11_readsCondition 30 = .ok (.bipush 13, 2) := by decide +kernel
theorem dX11_readsCondition_32 : decode cX11_readsCondition 32 = .ok (.invokevirtual 211, 3) := by decide +kernel
theorem dX11_readsCondition_35 : decode cX11_readsCondition 35 = .ok (.ifCond .ne 5, 3) := by decide +kernel
theorem dX11_readsCondition_38 : decode cX11_readsCondition 38 = .ok (.iconst 0, 1) := by decide +kernel
theorem dX11_readsCondition_39 : decode cX11_readsCondition 39 = .ok (.ireturn, 1) := by decide +kernel
theorem dX11_readsCondition_40 : decode cX11_readsCondition 40 = .ok (.aload_n 0, 1) := by decide +kernel
theorem dX11_readsCondition_41 : decode cX11_readsCondition 41 = .ok (.invokevirtual 177, 3) := by decide +kernel
theorem dX11_readsCondition_44 : decode cX11_readsCondition 44 = .ok (.bipush 33, 2) := by decide +kernel
theorem dX11_readsCondition_46 : decode cX11_readsCondition 46 = .ok (.if_icmp .eq 12, 3) := by decide +kernel
theorem dX11_readsCondition_49 : decode cX11_readsCondition 49 = .ok (.aload_n 0, 1) := by decide +kernel
theorem dX11_readsCondition_50 : decode cX11_readsCondition 50 = .ok (.invokevirtual 177, 3) := by decide +kernel
theorem dX11_readsCondition_53 : decode cX11_readsCondition 53 = .ok (.bipush 40, 2) := by decide +kernel
theorem dX11_readsCondition_55 : decode cX11_readsCondition 55 = .ok (.if_icmp .ne 28, 3) := by decide +kernel
theorem dX11_readsCondition_58 : decode cX11_readsCondition 58 = .ok (.aload_n 0, 1) := by decide +kernel
theorem dX11_readsCondition_59 : decode cX11_readsCondition 59 = .ok (.aload_n 0, 1) := by decide +kernel
theorem dX11_readsCondition_60 : decode cX11_readsCondition 60 = .ok (.invokevirtual 177, 3) := by decide +kernel
theorem dX11_readsCondition_63 : decode cX11_readsCondition 63 = .ok (.bipush 33, 2) := by decide +kernel
theorem dX11_readsCondition_65 : decode cX11_readsCondition 65 = .ok (.if_icmp .ne 8, 3) := by decide +kernel
theorem dX11_readsCondition_68 : decode cX11_readsCondition 68 = .ok (.bipush 10, 2) := by decide +kernel
theorem dX11_readsCondition_70 : decode cX11_readsCondition 70 = .ok (.goto 5, 3) := by decide +kernel
theorem dX11_readsCondition_73 : decode cX11_readsCondition 73 = .ok (.bipush 13, 2) := by decide +kernel
theorem dX11_readsCondition_75 : decode cX11_readsCondition 75 = .ok (.invokevirtual 211, 3) := by decide +kernel
theorem dX11_readsCondition_78 : decode cX11_readsCondition 78 = .ok (.ifCond .ne (-38), 3) := by decide +kernel
theorem dX11_readsCondition_81 : decode cX11_readsCondition 81 = .ok (.iconst 0, 1) := by decide +kernel
theorem dX11_readsCondition_82 : decode cX11_readsCondition 82 = .ok (.ireturn, 1) := by decide +kernel
theorem dX11_readsCondition_83 : decode cX11_readsCondition 83 = .ok (.aload_n 0, 1) := by decide +kernel
theorem dX11_readsCondition_84 : decode cX11_readsCondition 84 = .ok (.invokevirtual 239, 3) := by decide +kernel
theorem dX11_readsCondition_87 : decode cX11_readsCondition 87 = .ok (.ifCond .ne 5, 3) := by decide +kernel
theorem dX11_readsCondition_90 : decode cX11_readsCondition 90 = .ok (.iconst 0, 1) := by decide +kernel
theorem dX11_readsCondition_91 : decode cX11_readsCondition 91 = .ok (.ireturn, 1) := by decide +kernel
theorem dX11_readsCondition_92 : decode cX11_readsCondition 92 = .ok (.aload_n 0, 1) := by decide +kernel
theorem dX11_readsCondition_93 : decode cX11_readsCondition 93 = .ok (.invokevirtual 177, 3) := by decide +kernel
theorem dX11_readsCondition_96 : decode cX11_readsCondition 96 = .ok (.bipush 41, 2) := by decide +kernel
theorem dX11_readsCondition_98 : decode cX11_readsCondition 98 = .ok (.if_icmp .ne 54, 3) := by decide +kernel
theorem dX11_readsCondition_101 : decode cX11_readsCondition 101 = .ok (.aload_n 0, 1) := by decide +kernel
theorem dX11_readsCondition_102 : decode cX11_readsCondition 102 = .ok (.iconst 1, 1) := by decide +kernel
theorem dX11_readsCondition_103 : decode cX11_readsCondition 103 = .ok (.invokevirtual 242, 3) := by decide +kernel
theorem dX11_readsCondition_106 : decode cX11_readsCondition 106 = .ok (.aload_n 0, 1) := by decide +kernel
theorem dX11_readsCondition_107 : decode cX11_readsCondition 107 = .ok (.aload_n 0, 1) := by decide +kernel
theorem dX11_readsCondition_108 : decode cX11_readsCondition 108 = .ok (.getfield 201, 3) := by decide +kernel
theorem dX11_readsCondition_111 : decode cX11_readsCondition 111 = .ok (.iconst 1, 1) := by decide +kernel
theorem dX11_readsCondition_112 : decode cX11_readsCondition 112 = .ok (.isub, 1) := by decide +kernel
theorem dX11_readsCondition_113 : decode cX11_readsCondition 113 = .ok (.putfield 201, 3) := by decide +kernel
theorem dX11_readsCondition_116 : decode cX11_readsCondition 116 = .ok (.aload_n 0, 1) := by decide +kernel
theorem dX11_readsCondition_117 : decode cX11_readsCondition 117 = .ok (.aload_n 0, 1) := by decide +kernel
theorem dX11_readsCondition_118 : decode cX11_readsCondition 118 = .ok (.getfield 198, 3) := by decide +kernel
theorem dX11_readsCondition_121 : decode cX11_readsCondition 121 = .ok (.iconst 1, 1) := by decide +kernel
theorem dX11_readsCondition_122 : decode cX11_readsCondition 122 = .ok (.isub, 1) := by decide +kernel
theorem dX11_readsCondition_123 : decode cX11_readsCondition 123 = .ok (.putfield 198, 3) := by decide +kernel
theorem dX11_readsCondition_126 : decode cX11_readsCondition 126 = .ok (.aload_n 0, 1) := by decide +kernel
theorem dX11_readsCondition_127 : decode cX11_readsCondition 127 = .ok (.aload_n 0, 1) := by decide +kernel
theorem dX11_readsCondition_128 : decode cX11_readsCondition 128 = .ok (.getfield 171, 3) := by decide +kernel
theorem dX11_readsCondition_131 : decode cX11_readsCondition 131 = .ok (.iconst 1, 1) := by decide +kernel
theorem dX11_readsCondition_132 : decode cX11_readsCondition 132 = .ok (.iadd, 1) := by decide +kernel
theorem dX11_readsCondition_133 : decode cX11_readsCondition 133 = .ok (.putfield 171, 3) := by decide +kernel
theorem dX11_readsCondition_136 : decode cX11_readsCondition 136 = .ok (.aload_n 0, 1) := by decide +kernel
theorem dX11_readsCondition_137 : decode cX11_readsCondition 137 = .ok (.getfield 201, 3) := by decide +kernel
theorem dX11_readsCondition_140 : decode cX11_readsCondition 140 = .ok (.ifCond .ne 5, 3) := by decide +kernel
theorem dX11_readsCondition_143 : decode cX11_readsCondition 143 = .ok (.iconst 1, 1) := by decide +kernel
theorem dX11_readsCondition_144 : decode cX11_readsCondition 144 = .ok (.ireturn, 1) := by decide +kernel
theorem dX11_readsCondition_145 : decode cX11_readsCondition 145 = .ok (.aload_n 0, 1) := by decide +kernel
theorem dX11_readsCondition_146 : decode cX11_readsCondition 146 = .ok (.invokevirtual 236, 3) := by decide +kernel
theorem dX11_readsCondition_149 : decode cX11_readsCondition 149 = .ok (.goto (-57), 3) := by decide +kernel
theorem dX11_readsCondition_152 : decode cX11_readsCondition 152 = .ok (.aload_n 0, 1) := by decide +kernel
theorem dX11_readsCondition_153 : decode cX11_readsCondition 153 = .ok (.invokevirtual 177, 3) := by decide +kernel
theorem dX11_readsCondition_156 : decode cX11_readsCondition 156 = .ok (.bipush 38, 2) := by decide +kernel
theorem dX11_readsCondition_158 : decode cX11_readsCondition 158 = .ok (.if_icmp .eq 22, 3) := by decide +kernel
theorem dX11_readsCondition_161 : decode cX11_readsCondition 161 = .ok (.aload_n 0, 1) := by decide +kernel
theorem dX11_readsCondition_162 : decode cX11_readsCondition 162 = .ok (.invokevirtual 177, 3) := by decide +kernel
theorem dX11_readsCondition_165 : decode cX11_readsCondition 165 = .ok (.bipush 124, 2) := by decide +kernel
theorem dX11_readsCondition_167 : decode cX11_readsCondition 167 = .ok (.if_icmp .eq 13, 3) := by decide +kernel
theorem dX11_readsCondition_170 : decode cX11_readsCondition 170 = .ok (.aload_n 0, 1) := by decide +kernel
theorem dX11_readsCondition_171 : decode cX11_readsCondition 171 = .ok (.iconst 1, 1) := by decide +kernel
theorem dX11_readsCondition_172 : decode cX11_readsCondition 172 = .ok (.aload_n 0, 1) := by decide +kernel
theorem dX11_readsCondition_173 : decode cX11_readsCondition 173 = .ok (.getfield 171, 3) := by decide +kernel
theorem dX11_readsCondition_176 : decode cX11_readsCondition 176 = .ok (.invokevirtual 184, 3) := by decide +kernel
theorem dX11_readsCondition_179 : decode cX11_readsCondition 179 = .ok (.ireturn, 1) := by decide +kernel
theorem dX11_readsCondition_180 : decode cX11_readsCondition 180 = .ok (.aload_n 0, 1) := by decide +kernel
theorem dX11_readsCondition_181 : decode cX11_readsCondition 181 = .ok (.aload_n 0, 1) := by decide +kernel
theorem dX11_readsCondition_182 : decode cX11_readsCondition 182 = .ok (.invokevirtual 177, 3) := by decide +kernel
theorem dX11_readsCondition_185 : decode cX11_readsCondition 185 = .ok (.bipush 124, 2) := by decide +kernel
theorem dX11_readsCondition_187 : decode cX11_readsCondition 187 = .ok (.if_icmp .ne 7, 3) := by decide +kernel
theorem dX11_readsCondition_190 : decode cX11_readsCondition 190 = .ok (.iconst 1, 1) := by decide +kernel
theorem dX11_readsCondition_191 : decode cX11_readsCondition 191 = .ok (.goto 4, 3) := by decide +kernel
theorem dX11_readsCondition_194 : decode cX11_readsCondition 194 = .ok (.iconst 0, 1) := by decide +kernel
theorem dX11_readsCondition_195 : decode cX11_readsCondition 195 = .ok (.invokevirtual 242, 3) := by decide +kernel
theorem dX11_readsCondition_198 : decode cX11_readsCondition 198 = .ok (.aload_n 0, 1) := by decide +kernel
theorem dX11_readsCondition_199 : decode cX11_readsCondition 199 = .ok (.aload_n 0, 1) := by decide +kernel
theorem dX11_readsCondition_200 : decode cX11_readsCondition 200 = .ok (.invokevirtual 177, 3) := by decide +kernel
theorem dX11_readsCondition_203 : decode cX11_readsCondition 203 = .ok (.bipush 38, 2) := by decide +kernel
theorem dX11_readsCondition_205 : decode cX11_readsCondition 205 = .ok (.if_icmp .ne 8, 3) := by decide +kernel
theorem dX11_readsCondition_208 : decode cX11_readsCondition 208 = .ok (.bipush 11, 2) := by decide +kernel
theorem dX11_readsCondition_210 : decode cX11_readsCondition 210 = .ok (.goto 5, 3) := by decide +kernel
theorem dX11_readsCondition_213 : decode cX11_readsCondition 213 = .ok (.bipush 12, 2) := by decide +kernel
theorem dX11_readsCondition_215 : decode cX11_readsCondition 215 = .ok (.invokevirtual 245, 3) := by decide +kernel
theorem dX11_readsCondition_218 : decode cX11_readsCondition 218 = .ok (.goto (-178), 3) := by decide +kernel


theorem st_X11_16 (h0 : Nat) (σ : xS) (k : Nat) (a : Int) : xobj h0 (xU σ k 16 a) k 11 = (xobj h0 σ k 11).set 16 (.int (xJ a)) := by simp [xobj, xU]
theorem ln_X11_16 (h0 : Nat) (σ : xS) (k : Nat) : 16 < (xobj h0 σ k 11).length := by simp [xobj]
theorem st_X11_17 (h0 : Nat) (σ : xS) (k : Nat) (a : Int) : xobj h0 (xU σ k 17 a) k 11 = (xobj h0 σ k 11).set 17 (.int (xJ a)) := by simp [xobj, xU]
theorem ln_X11_17 (h0 : Nat) (σ : xS) (k : Nat) : 17 < (xobj h0 σ k 11).length := by simp [xobj]
theorem cf_X11_isClause : xCF yX11_isClause cX11_isClause 1 (some .boolean) 1 := ⟨xq 1469 (by decide +kernel) rfl, xq 179 (by decide +kernel) rfl, by decide +kernel⟩
theorem cf_X11_readsClause : xCF yX11_readsClause cX11_readsClause 2 (some .boolean) 0 := ⟨xq 1466 (by decide +kernel) rfl, xq 179 (by decide +kernel) rfl, by decide +kernel⟩
theorem cf_X11_readsCondition : xCF yX11_readsCondition cX11_readsCondition 1 (some .boolean) 0 := ⟨xq 1516 (by decide +kernel) rfl, xq 179 (by decide +kernel) rfl, by decide +kernel⟩
theorem wq115 : Cond.selects yX11_readsClause.cls yX11_readsClause yX11_readsClause ∈ xTB := xq 115 (by decide +kernel) rfl
theorem wq125 : Cond.selects yX11_readsCondition.cls yX11_readsCondition yX11_readsCondition ∈ xTB := xq 125 (by decide +kernel) rfl
theorem wq1201 : Cond.fieldLink "ShadowCourtModel" (297) "ShadowCourtModel" "saidMany" "I" ∈ xTB := xq 1201 (by decide +kernel) rfl
theorem wq1205 : Cond.fieldLink "ShadowCourtModel" (41) "ShadowCourtModel" "saidLetter" "[I" ∈ xTB := xq 1205 (by decide +kernel) rfl
theorem wq1206 : Cond.fieldLink "ShadowCourtModel" (44) "ShadowCourtModel" "saidFrom" "[I" ∈ xTB := xq 1206 (by decide +kernel) rfl
theorem wq1207 : Cond.fieldLink "ShadowCourtModel" (47) "ShadowCourtModel" "saidHalf" "[I" ∈ xTB := xq 1207 (by decide +kernel) rfl
theorem wq1208 : Cond.fieldLink "ShadowCourtModel" (50) "ShadowCourtModel" "saidTo" "[I" ∈ xTB := xq 1208 (by decide +kernel) rfl
theorem wq1463 : Cond.methodLink "ShadowCourtModel" (303) yX11_readsClause ∈ xTB := xq 1463 (by decide +kernel) rfl
theorem wq1465 : Cond.instanceMethod yX11_readsClause ∈ xTB := xq 1465 (by decide +kernel) rfl
theorem wq1467 : Cond.methodLink "ShadowCourtModel" (294) yX11_isClause ∈ xTB := xq 1467 (by decide +kernel) rfl
theorem wq1468 : Cond.static yX11_isClause ∈ xTB := xq 1468 (by decide +kernel) rfl
theorem wq1513 : Cond.methodLink "ShadowCourtModel" (300) yX11_readsCondition ∈ xTB := xq 1513 (by decide +kernel) rfl
theorem wq1515 : Cond.instanceMethod yX11_readsCondition ∈ xTB := xq 1515 (by decide +kernel) rfl
theorem dX11_law_0 : decode cX11_law 0 = .ok (.iload_n 1, 1) := by decide +kernel
theorem dX11_law_1 : decode cX11_law 1 = .ok (.iconst 1, 1) := by decide +kernel
theorem dX11_law_2 : decode cX11_law 2 = .ok (.sipush 240, 3) := by decide +kernel
theorem dX11_law_5 : decode cX11_law 5 = .ok (.invokestatic 150, 3) := by decide +kernel
theorem dX11_law_8 : decode cX11_law 8 = .ok (.ifCond .eq 11, 3) := by decide +kernel
theorem dX11_law_11 : decode cX11_law 11 = .ok (.iload_n 1, 1) := by decide +kernel
theorem dX11_law_12 : decode cX11_law 12 = .ok (.aload_n 0, 1) := by decide +kernel
theorem dX11_law_13 : decode cX11_law 13 = .ok (.getfield 164, 3) := by decide +kernel
theorem dX11_law_16 : decode cX11_law 16 = .ok (.if_icmp .le 5, 3) := by decide +kernel
theorem dX11_law_19 : decode cX11_law 19 = .ok (.iconst (-1), 1) := by decide +kernel
theorem dX11_law_20 : decode cX11_law 20 = .ok (.ireturn, 1) := by decide +kernel
theorem dX11_law_21 : decode cX11_law 21 = .ok (.aload_n 0, 1) := by decide +kernel
theorem dX11_law_22 : decode cX11_law 22 = .ok (.iconst 0, 1) := by decide +kernel
theorem dX11_law_23 : decode cX11_law 23 = .ok (.putfield 171, 3) := by decide +kernel
theorem dX11_law_26 : decode cX11_law 26 = .ok (.aload_n 0, 1) := by decide +kernel
theorem dX11_law_27 : decode cX11_law 27 = .ok (.iload_n 1, 1) := by decide +kernel
theorem dX11_law_28 : decode cX11_law 28 = .ok (.putfield 174, 3) := by decide +kernel
theorem dX11_law_31 : decode cX11_law 31 = .ok (.aload_n 0, 1) := by decide +kernel
theorem dX11_law_32 : decode cX11_law 32 = .ok (.iconst 0, 1) := by decide +kernel
theorem dX11_law_33 : decode cX11_law 33 = .ok (.putfield 194, 3) := by decide +kernel
theorem dX11_law_36 : decode cX11_law 36 = .ok (.aload_n 0, 1) := by decide +kernel
theorem dX11_law_37 : decode cX11_law 37 = .ok (.iconst 0, 1) := by decide +kernel
theorem dX11_law_38 : decode cX11_law 38 = .ok (.putfield 297, 3) := by decide +kernel
theorem dX11_law_41 : decode cX11_law 41 = .ok (.aload_n 0, 1) := by decide +kernel
theorem dX11_law_42 : decode cX11_law 42 = .ok (.invokevirtual 303, 3) := by decide +kernel
theorem dX11_law_45 : decode cX11_law 45 = .ok (.istore_n 2, 1) := by decide +kernel
theorem dX11_law_46 : decode cX11_law 46 = .ok (.iload_n 2, 1) := by decide +kernel
theorem dX11_law_47 : decode cX11_law 47 = .ok (.ifCond .eq 39, 3) := by decide +kernel
theorem dX11_law_50 : decode cX11_law 50 = .ok (.aload_n 0, 1) := by decide +kernel
theorem dX11_law_51 : decode cX11_law 51 = .ok (.getfield 171, 3) := by decide +kernel
theorem dX11_law_54 : decode cX11_law 54 = .ok (.aload_n 0, 1) := by decide +kernel
theorem dX11_law_55 : decode cX11_law 55 = .ok (.getfield 174, 3) := by decide +kernel
theorem dX11_law_58 : decode cX11_law 58 = .ok (.if_icmp .ge 28, 3) := by decide +kernel
theorem dX11_law_61 : decode cX11_law 61 = .ok (.aload_n 0, 1) := by decide +kernel
theorem dX11_law_62 : decode cX11_law 62 = .ok (.bipush 59, 2) := by decide +kernel
theorem dX11_law_64 : decode cX11_law 64 = .ok (.invokevirtual 257, 3) := by decide +kernel
theorem dX11_law_67 : decode cX11_law 67 = .ok (.ifCond .eq 14, 3) := by decide +kernel
theorem dX11_law_70 : decode cX11_law 70 = .ok (.aload_n 0, 1) := by decide +kernel
theorem dX11_law_71 : decode cX11_law 71 = .ok (.invokevirtual 303, 3) := by decide +kernel
theorem dX11_law_74 : decode cX11_law 74 = .ok (.ifCond .eq 7, 3) := by decide +kernel
theorem dX11_law_77 : decode cX11_law 77 = .ok (.iconst 1, 1) := by decide +kernel
theorem dX11_law_78 : decode cX11_law 78 = .ok (.goto 4, 3) := by decide +kernel
theorem dX11_law_81 : decode cX11_law 81 = .ok (.iconst 0, 1) := by decide +kernel
theorem dX11_law_82 : decode cX11_law 82 = .ok (.istore_n 2, 1) := by decide +kernel
theorem dX11_law_83 : decode cX11_law 83 = .ok (.goto (-37), 3) := by decide +kernel
theorem dX11_law_86 : decode cX11_law 86 = .ok (.aload_n 0, 1) := by decide +kernel
theorem dX11_law_87 : decode cX11_law 87 = .ok (.iconst 0, 1) := by decide +kernel
theorem dX11_law_88 : decode cX11_law 88 = .ok (.putfield 164, 3) := by decide +kernel
theorem dX11_law_91 : decode cX11_law 91 = .ok (.iload_n 2, 1) := by decide +kernel
theorem dX11_law_92 : decode cX11_law 92 = .ok (.ifCond .ne 8, 3) := by decide +kernel
theorem dX11_law_95 : decode cX11_law 95 = .ok (.aload_n 0, 1) := by decide +kernel
theorem dX11_law_96 : decode cX11_law 96 = .ok (.getfield 181, 3) := by decide +kernel
theorem dX11_law_99 : decode cX11_law 99 = .ok (.ireturn, 1) := by decide +kernel
theorem dX11_law_100 : decode cX11_law 100 = .ok (.aload_n 0, 1) := by decide +kernel
theorem dX11_law_101 : decode cX11_law 101 = .ok (.aload_n 0, 1) := by decide +kernel
theorem dX11_law_102 : decode cX11_law 102 = .ok (.getfield 297, 3) := by decide +kernel
theorem dX11_law_105 : decode cX11_law 105 = .ok (.putfield 306, 3) := by decide +kernel
theorem dX11_law_108 : decode cX11_law 108 = .ok (.iconst 0, 1) := by decide +kernel
theorem dX11_law_109 : decode cX11_law 109 = .ok (.istore_n 3, 1) := by decide +kernel
theorem dX11_law_110 : decode cX11_law 110 = .ok (.iload_n 3, 1) := by decide +kernel
theorem dX11_law_111 : decode cX11_law 111 = .ok (.aload_n 0, 1) := by decide +kernel
theorem dX11_law_112 : decode cX11_law 112 = .ok (.getfield 194, 3) := by decide +kernel
theorem dX11_law_115 : decode cX11_law 115 = .ok (.if_icmp .ge 21, 3) := by decide +kernel
theorem dX11_law_118 : decode cX11_law 118 = .ok (.aload_n 0, 1) := by decide +kernel
theorem dX11_law_119 : decode cX11_law 119 = .ok (.getfield 53, 3) := by decide +kernel
theorem dX11_law_122 : decode cX11_law 122 = .ok (.iload_n 3, 1) := by decide +kernel
theorem dX11_law_123 : decode cX11_law 123 = .ok (.aload_n 0, 1) := by decide +kernel
theorem dX11_law_124 : decode cX11_law 124 = .ok (.getfield 35, 3) := by decide +kernel
theorem dX11_law_127 : decode cX11_law 127 = .ok (.iload_n 3, 1) := by decide +kernel
theorem dX11_law_128 : decode cX11_law 128 = .ok (.iaload, 1) := by decide +kernel
theorem dX11_law_129 : decode cX11_law 129 = .ok (.iastore, 1) := by decide +kernel
theorem dX11_law_130 : decode cX11_law 130 = .ok (.iinc 3 1, 3) := by decide +kernel
theorem dX11_law_133 : decode cX11_law 133 = .ok (.goto (-23), 3) := by decide +kernel
theorem dX11_law_136 : decode cX11_law 136 = .ok (.iconst 0, 1) := by decide +kernel
theorem dX11_law_137 : decode cX11_law 137 = .ok (.istore_n 3, 1) := by decide +kernel
theorem dX11_law_138 : decode cX11_law 138 = .ok (.iload_n 3, 1) := by decide +kernel
theorem dX11_law_139 : decode cX11_law 139 = .ok (.aload_n 0, 1) := by decide +kernel
theorem dX11_law_140 : decode cX11_law 140 = .ok (.getfield 297, 3) := by decide +kernel
theorem dX11_law_143 : decode cX11_law 143 = .ok (.if_icmp .ge 57, 3) := by decide +kernel
theorem dX11_law_146 : decode cX11_law 146 = .ok (.aload_n 0, 1) := by decide +kernel
theorem dX11_law_147 : decode cX11_law 147 = .ok (.getfield 56, 3) := by decide +kernel
theorem dX11_law_150 : decode cX11_law 150 = .ok (.iload_n 3, 1) := by decide +kernel
theorem dX11_law_151 : decode cX11_law 151 = .ok (.aload_n 0, 1) := by decide +kernel
theorem dX11_law_152 : decode cX11_law 152 = .ok (.getfield 41, 3) := by decide +kernel
theorem dX11_law_155 : decode cX11_law 155 = .ok (.iload_n 3, 1) := by decide +kernel
theorem dX11_law_156 : decode cX11_law 156 = .ok (.iaload, 1) := by decide +kernel
theorem dX11_law_157 : decode cX11_law 157 = .ok (.iastore, 1) := by decide +kernel
theorem dX11_law_158 : decode cX11_law 158 = .ok (.aload_n 0, 1) := by decide +kernel
theorem dX11_law_159 : decode cX11_law 159 = .ok (.getfield 59, 3) := by decide +kernel
theorem dX11_law_162 : decode cX11_law 162 = .ok (.iload_n 3, 1) := by decide +kernel
theorem dX11_law_163 : decode cX11_law 163 = .ok (.aload_n 0, 1) := by decide +kernel
theorem dX11_law_164 : decode cX11_law 164 = .ok (.getfield 44, 3) := by decide +kernel
theorem dX11_law_167 : decode cX11_law 167 = .ok (.iload_n 3, 1) := by decide +kernel
theorem dX11_law_168 : decode cX11_law 168 = .ok (.iaload, 1) := by decide +kernel
theorem dX11_law_169 : decode cX11_law 169 = .ok (.iastore, 1) := by decide +kernel
theorem dX11_law_170 : decode cX11_law 170 = .ok (.aload_n 0, 1) := by decide +kernel
theorem dX11_law_171 : decode cX11_law 171 = .ok (.getfield 62, 3) := by decide +kernel
theorem dX11_law_174 : decode cX11_law 174 = .ok (.iload_n 3, 1) := by decide +kernel
theorem dX11_law_175 : decode cX11_law 175 = .ok (.aload_n 0, 1) := by decide +kernel
theorem dX11_law_176 : decode cX11_law 176 = .ok (.getfield 47, 3) := by decide +kernel
theorem dX11_law_179 : decode cX11_law 179 = .ok (.iload_n 3, 1) := by decide +kernel
theorem dX11_law_180 : decode cX11_law 180 = .ok (.iaload, 1) := by decide +kernel
theorem dX11_law_181 : decode cX11_law 181 = .ok (.iastore, 1) := by decide +kernel
theorem dX11_law_182 : decode cX11_law 182 = .ok (.aload_n 0, 1) := by decide +kernel
theorem dX11_law_183 : decode cX11_law 183 = .ok (.getfield 65, 3) := by decide +kernel
theorem dX11_law_186 : decode cX11_law 186 = .ok (.iload_n 3, 1) := by decide +kernel
theorem dX11_law_187 : decode cX11_law 187 = .ok (.aload_n 0, 1) := by decide +kernel
theorem dX11_law_188 : decode cX11_law 188 = .ok (.getfield 50, 3) := by decide +kernel
theorem dX11_law_191 : decode cX11_law 191 = .ok (.iload_n 3, 1) := by decide +kernel
theorem dX11_law_192 : decode cX11_law 192 = .ok (.iaload, 1) := by decide +kernel
theorem dX11_law_193 : decode cX11_law 193 = .ok (.iastore, 1) := by decide +kernel
theorem dX11_law_194 : decode cX11_law 194 = .ok (.iinc 3 1, 3) := by decide +kernel
theorem dX11_law_197 : decode cX11_law 197 = .ok (.goto (-59), 3) := by decide +kernel
theorem dX11_law_200 : decode cX11_law 200 = .ok (.aload_n 0, 1) := by decide +kernel
theorem dX11_law_201 : decode cX11_law 201 = .ok (.getfield 297, 3) := by decide +kernel
theorem dX11_law_204 : decode cX11_law 204 = .ok (.ireturn, 1) := by decide +kernel
theorem dX11_readsClause_0 : decode cX11_readsClause 0 = .ok (.aload_n 0, 1) := by decide +kernel
theorem dX11_readsClause_1 : decode cX11_readsClause 1 = .ok (.invokevirtual 177, 3) := by decide +kernel
theorem dX11_readsClause_4 : decode cX11_readsClause 4 = .ok (.istore_n 1, 1) := by decide +kernel
theorem dX11_readsClause_5 : decode cX11_readsClause 5 = .ok (.iload_n 1, 1) := by decide +kernel
theorem dX11_readsClause_6 : decode cX11_readsClause 6 = .ok (.invokestatic 294, 3) := by decide +kernel
theorem dX11_readsClause_9 : decode cX11_readsClause 9 = .ok (.ifCond .ne 13, 3) := by decide +kernel
theorem dX11_readsClause_12 : decode cX11_readsClause 12 = .ok (.aload_n 0, 1) := by decide +kernel
theorem dX11_readsClause_13 : decode cX11_readsClause 13 = .ok (.iconst 1, 1) := by decide +kernel
theorem dX11_readsClause_14 : decode cX11_readsClause 14 = .ok (.aload_n 0, 1) := by decide +kernel
theorem dX11_readsClause_15 : decode cX11_readsClause 15 = .ok (.getfield 171, 3) := by decide +kernel
theorem dX11_readsClause_18 : decode cX11_readsClause 18 = .ok (.invokevirtual 184, 3) := by decide +kernel
theorem dX11_readsClause_21 : decode cX11_readsClause 21 = .ok (.ireturn, 1) := by decide +kernel
theorem dX11_readsClause_22 : decode cX11_readsClause 22 = .ok (.aload_n 0, 1) := by decide +kernel
theorem dX11_readsClause_23 : decode cX11_readsClause 23 = .ok (.getfield 297, 3) := by decide +kernel
theorem dX11_readsClause_26 : decode cX11_readsClause 26 = .ok (.bipush 16, 2) := by decide +kernel
theorem dX11_readsClause_28 : decode cX11_readsClause 28 = .ok (.if_icmp .ne 13, 3) := by decide +kernel
theorem dX11_readsClause_31 : decode cX11_readsClause 31 = .ok (.aload_n 0, 1) := by decide +kernel
theorem dX11_readsClause_32 : decode cX11_readsClause 32 = .ok (.iconst 4, 1) := by decide +kernel
theorem dX11_readsClause_33 : decode cX11_readsClause 33 = .ok (.aload_n 0, 1) := by decide +kernel
theorem dX11_readsClause_34 : decode cX11_readsClause 34 = .ok (.getfield 171, 3) := by decide +kernel
theorem dX11_readsClause_37 : decode cX11_readsClause 37 = .ok (.invokevirtual 184, 3) := by decide +kernel
theorem dX11_readsClause_40 : decode cX11_readsClause 40 = .ok (.ireturn, 1) := by decide +kernel
theorem dX11_readsClause_41 : decode cX11_readsClause 41 = .ok (.aload_n 0, 1) := by decide +kernel
theorem dX11_readsClause_42 : decode cX11_readsClause 42 = .ok (.getfield 41, 3) := by decide +kernel
theorem dX11_readsClause_45 : decode cX11_readsClause 45 = .ok (.aload_n 0, 1) := by decide +kernel
theorem dX11_readsClause_46 : decode cX11_readsClause 46 = .ok (.getfield 297, 3) := by decide +kernel
theorem dX11_readsClause_49 : decode cX11_readsClause 49 = .ok (.iload_n 1, 1) := by decide +kernel
theorem dX11_readsClause_50 : decode cX11_readsClause 50 = .ok (.iastore, 1) := by decide +kernel
theorem dX11_readsClause_51 : decode cX11_readsClause 51 = .ok (.aload_n 0, 1) := by decide +kernel
theorem dX11_readsClause_52 : decode cX11_readsClause 52 = .ok (.aload_n 0, 1) := by decide +kernel
theorem dX11_readsClause_53 : decode cX11_readsClause 53 = .ok (.getfield 171, 3) := by decide +kernel
theorem dX11_readsClause_56 : decode cX11_readsClause 56 = .ok (.iconst 1, 1) := by decide +kernel
theorem dX11_readsClause_57 : decode cX11_readsClause 57 = .ok (.iadd, 1) := by decide +kernel
theorem dX11_readsClause_58 : decode cX11_readsClause 58 = .ok (.putfield 171, 3) := by decide +kernel
theorem dX11_readsClause_61 : decode cX11_readsClause 61 = .ok (.aload_n 0, 1) := by decide +kernel
theorem dX11_readsClause_62 : decode cX11_readsClause 62 = .ok (.getfield 44, 3) := by decide +kernel
theorem dX11_readsClause_65 : decode cX11_readsClause 65 = .ok (.aload_n 0, 1) := by decide +kernel
theorem dX11_readsClause_66 : decode cX11_readsClause 66 = .ok (.getfield 297, 3) := by decide +kernel
theorem dX11_readsClause_69 : decode cX11_readsClause 69 = .ok (.aload_n 0, 1) := by decide +kernel
theorem dX11_readsClause_70 : decode cX11_readsClause 70 = .ok (.getfield 194, 3) := by decide +kernel
theorem dX11_readsClause_73 : decode cX11_readsClause 73 = .ok (.iastore, 1) := by decide +kernel
theorem dX11_readsClause_74 : decode cX11_readsClause 74 = .ok (.aload_n 0, 1) := by decide +kernel
theorem dX11_readsClause_75 : decode cX11_readsClause 75 = .ok (.iconst 0, 1) := by decide +kernel
theorem dX11_readsClause_76 : decode cX11_readsClause 76 = .ok (.putfield 198, 3) := by decide +kernel
theorem dX11_readsClause_79 : decode cX11_readsClause 79 = .ok (.aload_n 0, 1) := by decide +kernel
theorem dX11_readsClause_80 : decode cX11_readsClause 80 = .ok (.iconst 0, 1) := by decide +kernel
theorem dX11_readsClause_81 : decode cX11_readsClause 81 = .ok (.putfield 201, 3) := by decide +kernel
theorem dX11_readsClause_84 : decode cX11_readsClause 84 = .ok (.iload_n 1, 1) := by decide +kernel
theorem dX11_readsClause_85 : decode cX11_readsClause 85 = .ok (.bipush 110, 2) := by decide +kernel
theorem dX11_readsClause_87 : decode cX11_readsClause 87 = .ok (.if_icmp .eq 12, 3) := by decide +kernel
theorem dX11_readsClause_90 : decode cX11_readsClause 90 = .ok (.aload_n 0, 1) := by decide +kernel
theorem dX11_readsClause_91 : decode cX11_readsClause 91 = .ok (.invokevirtual 233, 3) := by decide +kernel
theorem dX11_readsClause_94 : decode cX11_readsClause 94 = .ok (.ifCond .ne 5, 3) := by decide +kernel
theorem dX11_readsClause_97 : decode cX11_readsClause 97 = .ok (.iconst 0, 1) := by decide +kernel
theorem dX11_readsClause_98 : decode cX11_readsClause 98 = .ok (.ireturn, 1) := by decide +kernel
theorem dX11_readsClause_99 : decode cX11_readsClause 99 = .ok (.aload_n 0, 1) := by decide +kernel
theorem dX11_readsClause_100 : decode cX11_readsClause 100 = .ok (.getfield 47, 3) := by decide +kernel
theorem dX11_readsClause_103 : decode cX11_readsClause 103 = .ok (.aload_n 0, 1) := by decide +kernel
theorem dX11_readsClause_104 : decode cX11_readsClause 104 = .ok (.getfield 297, 3) := by decide +kernel
theorem dX11_readsClause_107 : decode cX11_readsClause 107 = .ok (.aload_n 0, 1) := by decide +kernel
theorem dX11_readsClause_108 : decode cX11_readsClause 108 = .ok (.getfield 194, 3) := by decide +kernel
theorem dX11_readsClause_111 : decode cX11_readsClause 111 = .ok (.iastore, 1) := by decide +kernel
theorem dX11_readsClause_112 : decode cX11_readsClause 112 = .ok (.aload_n 0, 1) := by decide +kernel
theorem dX11_readsClause_113 : decode cX11_readsClause 113 = .ok (.invokevirtual 300, 3) := by decide +kernel
theorem dX11_readsClause_116 : decode cX11_readsClause 116 = .ok (.ifCond .ne 5, 3) := by decide +kernel
theorem dX11_readsClause_119 : decode cX11_readsClause 119 = .ok (.iconst 0, 1) := by decide +kernel
theorem dX11_readsClause_120 : decode cX11_readsClause 120 = .ok (.ireturn, 1) := by decide +kernel
theorem dX11_readsClause_121 : decode cX11_readsClause 121 = .ok (.aload_n 0, 1) := by decide +kernel
theorem dX11_readsClause_122 : decode cX11_readsClause 122 = .ok (.getfield 50, 3) := by decide +kernel
theorem dX11_readsClause_125 : decode cX11_readsClause 125 = .ok (.aload_n 0, 1) := by decide +kernel
theorem dX11_readsClause_126 : decode cX11_readsClause 126 = .ok (.getfield 297, 3) := by decide +kernel
theorem dX11_readsClause_129 : decode cX11_readsClause 129 = .ok (.aload_n 0, 1) := by decide +kernel
theorem dX11_readsClause_130 : decode cX11_readsClause 130 = .ok (.getfield 194, 3) := by decide +kernel
theorem dX11_readsClause_133 : decode cX11_readsClause 133 = .ok (.iastore, 1) := by decide +kernel
theorem dX11_readsClause_134 : decode cX11_readsClause 134 = .ok (.aload_n 0, 1) := by decide +kernel
theorem dX11_readsClause_135 : decode cX11_readsClause 135 = .ok (.aload_n 0, 1) := by decide +kernel
theorem dX11_readsClause_136 : decode cX11_readsClause 136 = .ok (.getfield 297, 3) := by decide +kernel
theorem dX11_readsClause_139 : decode cX11_readsClause 139 = .ok (.iconst 1, 1) := by decide +kernel
theorem dX11_readsClause_140 : decode cX11_readsClause 140 = .ok (.iadd, 1) := by decide +kernel
theorem dX11_readsClause_141 : decode cX11_readsClause 141 = .ok (.putfield 297, 3) := by decide +kernel
theorem dX11_readsClause_144 : decode cX11_readsClause 144 = .ok (.iconst 1, 1) := by decide +kernel
theorem dX11_readsClause_145 : decode cX11_readsClause 145 = .ok (.ireturn, 1) := by decide +kernel



/-! ===== the market's text ===== -/
def zch (f : Int → Int) (n p : Int) : Int := if p < n then f p else -1
theorem zch_i {f : Int → Int} {n p c : Int} (h : (p < n ∧ c = f p) ∨ (n ≤ p ∧ c = -1)) : c = zch f n p := by
  unfold zch
  rcases h with ⟨a, b⟩ | ⟨a, b⟩
  · rw [if_pos a, b]
  · rw [if_neg (by omega), b]
def zkd (c : Int) : Int := if c = 46 then 0 else if c = 35 then 1 else if c = 115 then 2 else if c = 114 then 3 else -1
theorem zkd_i {c r : Int} (h : (c = 46 ∧ r = 0) ∨ (c = 35 ∧ r = 1) ∨ (c = 115 ∧ r = 2) ∨ (c = 114 ∧ r = 3) ∨ (c ≠ 46 ∧ c ≠ 35 ∧ c ≠ 115 ∧ c ≠ 114 ∧ r = -1)) : r = zkd c := by
  unfold zkd
  (repeat' split) <;> omega
theorem zkd_r (c : Int) : -1 ≤ zkd c ∧ zkd c ≤ 3 := by
  unfold zkd
  (repeat' split) <;> omega
def ztm (c : Int) : Int := if c = 48 then 10 else if 50 ≤ c ∧ c ≤ 57 then c - 48 else 0
theorem ztm_i {c r : Int} (h : (c = 48 ∧ r = 10) ∨ (50 ≤ c ∧ c ≤ 57 ∧ r = c - 48) ∨ (c ≠ 48 ∧ (c < 50 ∨ 57 < c) ∧ r = 0)) : r = ztm c := by
  unfold ztm
  (repeat' split) <;> omega
theorem ztm_r (c : Int) : ztm c = 0 ∨ (2 ≤ ztm c ∧ ztm c ≤ 10) := by
  unfold ztm
  (repeat' split) <;> omega
def zfill (K : Int → Int) (a t v : Int) : Int → Int := fun j => if a ≤ j ∧ j < a + t then v else K j
theorem zfill_0 (K : Int → Int) (a v : Int) {t : Int} (h : t = 0) : K = zfill K a t v := funext fun j => (if_neg (by omega)).symm
theorem zfill_c {K : Int → Int} {a a2 t t2 v v2 : Int} (h1 : a = a2) (h2 : t = t2) (h3 : v = v2) : zfill K a t v = zfill K a2 t2 v2 := by rw [h1, h2, h3]
theorem zfill_s {K K1 : Int → Int} {a t v i t2 w : Int} (h : K1 = zfill K a t v) (hi : i = a + t) (ht : 0 ≤ t) (h2 : t2 = t + 1) (hw : w = v) : xud K1 i w = zfill K a t2 v := by
  subst h2; subst hi; subst hw
  funext j
  unfold xud
  rw [h]
  unfold zfill
  by_cases e : j = a + t
  · rw [if_pos e, if_pos (by omega)]
  · rw [if_neg e]
    by_cases q : a ≤ j ∧ j < a + t
    · rw [if_pos q, if_pos (by omega)]
    · rw [if_neg q, if_neg (by omega)]
def zp1 (f : Int → Int) (n p : Int) : Int := if 0 < ztm (zch f n p) then p + 1 else p
def ztx (f : Int → Int) (n p : Int) : Int := if 0 < ztm (zch f n p) then ztm (zch f n p) else 1
def zrow (f : Int → Int) (n y : Int) : Nat → Int → Int → (Int → Int) → Int × Int × (Int → Int)
  | 0, p, _, K => (0, p, K)
  | k + 1, p, x, K => if 10 ≤ x then (0, p, K) else if 10 < x + ztm (zch f n p) then (-6000 - p, p, K) else
    if zkd (zch f n (zp1 f n p)) = -1 then (-1000 - zp1 f n p, p, K) else
    zrow f n y k (zp1 f n p + 1) (x + ztx f n p) (zfill K (10 * y + x) (ztx f n p) (zkd (zch f n (zp1 f n p))))
/-- a row's reading, from where it stands -/
def zRS (f : Int → Int) (n y : Int) (Z : Int × Int × (Int → Int)) (p x : Int) (K : Int → Int) : Prop := ∃ k : Nat, 10 - x ≤ (k : Int) ∧ Z = zrow f n y k p x K
section ZR
variable {f : Int → Int} {n y p x : Int} {K : Int → Int} {Z : Int × Int × (Int → Int)}
theorem zRS.new : zRS f n y (zrow f n y 10 p 0 K) p 0 K := ⟨10, by omega, rfl⟩
theorem zRS.fin (h : zRS f n y Z p x K) (hx : 10 ≤ x) : Z = (0, p, K) := by
  obtain ⟨k, hk, e⟩ := h
  cases k with
  | zero => exact e
  | succ k => exact e.trans (if_pos hx)
theorem zRS.six (h : zRS f n y Z p x K) (hx : x < 10) (ht : 10 < x + ztm (zch f n p)) : Z = (-6000 - p, p, K) := by
  obtain ⟨k, hk, e⟩ := h
  cases k with
  | zero => omega
  | succ k => exact e.trans ((if_neg (by omega)).trans (if_pos ht))
theorem zp1_i {t p1 : Int} (ht : t = ztm (zch f n p)) (h : (0 < t ∧ p1 = p + 1) ∨ (t ≤ 0 ∧ p1 = p)) : p1 = zp1 f n p := by
  unfold zp1
  rw [← ht]
  split <;> omega
theorem ztx_i {t w : Int} (ht : t = ztm (zch f n p)) (h : (0 < t ∧ w = t) ∨ (t ≤ 0 ∧ w = 1)) : w = ztx f n p := by
  unfold ztx
  rw [← ht]
  split <;> omega
theorem zRS.one {t p1 : Int} (h : zRS f n y Z p x K) (hx : x < 10) (ht : t = ztm (zch f n p)) (h6 : x + t ≤ 10) (hp : (0 < t ∧ p1 = p + 1) ∨ (t ≤ 0 ∧ p1 = p)) (hv : zkd (zch f n p1) = -1) : Z = (-1000 - p1, p, K) := by
  have e1 := zp1_i ht hp
  obtain ⟨k, hk, e⟩ := h
  rw [e1] at hv ⊢
  cases k with
  | zero => omega
  | succ k => exact e.trans ((if_neg (by omega)).trans ((if_neg (by omega)).trans (if_pos hv)))
theorem zRS.step {t p1 v x2 p2 : Int} {K2 : Int → Int} (h : zRS f n y Z p x K) (hx : x < 10) (ht : t = ztm (zch f n p)) (h6 : x + t ≤ 10) (hp : (0 < t ∧ p1 = p + 1) ∨ (t ≤ 0 ∧ p1 = p)) (hv : v = zkd (zch f n p1)) (hv1 : v ≠ -1) (hx2 : (0 < t ∧ x2 = x + t) ∨ (t ≤ 0 ∧ x2 = x + 1)) (hp2 : p2 = p1 + 1) (hK : K2 = zfill K (10 * y + x) (x2 - x) v) : zRS f n y Z p2 x2 K2 := by
  have e1 := zp1_i ht hp
  have e2 : x2 - x = ztx f n p := ztx_i ht (by omega)
  have e3 := ztm_r (zch f n p)
  obtain ⟨k, hk, e⟩ := h
  cases k with
  | zero => omega
  | succ k =>
    refine ⟨k, by omega, e.trans ((if_neg (by omega)).trans ((if_neg (by omega)).trans ((if_neg (by rw [← e1, ← hv]; exact hv1)).trans ?_)))⟩
    rw [← e1, ← e2, ← hv, hp2, hK, show x + (x2 - x) = x2 from by omega]
end ZR
/-- a row and what must stand behind it -/
def zR (f : Int → Int) (n y p : Int) (K : Int → Int) : Int × Int × (Int → Int) :=
  if (zrow f n y 10 p 0 K).1 ≠ 0 then zrow f n y 10 p 0 K else
  if zkd (zch f n (zrow f n y 10 p 0 K).2.1) ≠ -1 ∨ 0 < ztm (zch f n (zrow f n y 10 p 0 K).2.1) then (-6000 - (zrow f n y 10 p 0 K).2.1, (zrow f n y 10 p 0 K).2.1, (zrow f n y 10 p 0 K).2.2) else zrow f n y 10 p 0 K
theorem zR_bad {f : Int → Int} {n y p : Int} {K : Int → Int} (h : (zrow f n y 10 p 0 K).1 ≠ 0) : zR f n y p K = zrow f n y 10 p 0 K := if_pos h
theorem zR_six {f : Int → Int} {n y p : Int} {K : Int → Int} {q : Int} {K2 : Int → Int} (h : zrow f n y 10 p 0 K = (0, q, K2)) (hc : zkd (zch f n q) ≠ -1 ∨ 0 < ztm (zch f n q)) : zR f n y p K = (-6000 - q, q, K2) := by
  unfold zR
  rw [h]
  exact (if_neg (fun z => z rfl)).trans (if_pos hc)
theorem zR_ok {f : Int → Int} {n y p : Int} {K : Int → Int} {q : Int} {K2 : Int → Int} (h : zrow f n y 10 p 0 K = (0, q, K2)) (hc : zkd (zch f n q) = -1 ∧ ztm (zch f n q) ≤ 0) : zR f n y p K = (0, q, K2) := by
  unfold zR
  rw [h]
  exact (if_neg (fun z => z rfl)).trans (if_neg (fun z => z.elim (fun w => w hc.1) (fun w => absurd w (Int.not_lt.mpr hc.2))))
def zM (f : Int → Int) (n : Int) : Nat → Int → Int → (Int → Int) → Int × Int × (Int → Int)
  | 0, _, p, K => (if p < n then -1000 - p else 0, p, K)
  | k + 1, y, p, K => if zch f n p ≠ 47 then (-1000 - p, p, K) else if (zR f n y (p + 1) K).1 ≠ 0 then zR f n y (p + 1) K else zM f n k (y + 1) (zR f n y (p + 1) K).2.1 (zR f n y (p + 1) K).2.2
def zN (f : Int → Int) (n : Int) (k : Nat) (y p : Int) (K : Int → Int) : Int × Int × (Int → Int) := if (zR f n y p K).1 ≠ 0 then zR f n y p K else zM f n k (y + 1) (zR f n y p K).2.1 (zR f n y p K).2.2
def zMk (f : Int → Int) (n : Int) (K : Int → Int) : Int × Int × (Int → Int) := zN f n 9 0 0 K
section ZM
variable {f : Int → Int} {n y p q : Int} {K K2 : Int → Int} {k : Nat}
theorem zN_bad (h : (zR f n y p K).1 ≠ 0) : zN f n k y p K = zR f n y p K := if_pos h
theorem zN_ok (h : zR f n y p K = (0, q, K2)) : zN f n k y p K = zM f n k (y + 1) q K2 := by
  unfold zN
  rw [h]
  exact if_neg (fun z => z rfl)
theorem zM_end (h : k = 0) : zM f n k y p K = (if p < n then -1000 - p else 0, p, K) := by subst h; rfl
theorem zM_no (h : 0 < k) (hc : zch f n p ≠ 47) : zM f n k y p K = (-1000 - p, p, K) := by
  cases k with
  | zero => omega
  | succ k => exact if_pos hc
theorem zM_go (h : 0 < k) (hc : zch f n p = 47) : zM f n k y p K = zN f n (k - 1) y (p + 1) K := by
  cases k with
  | zero => omega
  | succ k => exact if_neg (fun z => z hc)
end ZM
def zct (K : Int → Int) (v : Int) : Nat → Int
  | 0 => 0
  | k + 1 => zct K v k + (if K k = v then 1 else 0)
theorem zct_y {K : Int → Int} {v i : Int} (hi : 0 ≤ i) (h : K i = v) : zct K v (i + 1).toNat = zct K v i.toNat + 1 := by
  rw [show (i + 1).toNat = i.toNat + 1 from by omega]
  show zct K v i.toNat + (if K (i.toNat : Int) = v then 1 else 0) = _
  rw [Int.toNat_of_nonneg hi, if_pos h]
theorem zct_n {K : Int → Int} {v i : Int} (hi : 0 ≤ i) (h : K i ≠ v) : zct K v (i + 1).toNat = zct K v i.toNat := by
  rw [show (i + 1).toNat = i.toNat + 1 from by omega]
  show zct K v i.toNat + (if K (i.toNat : Int) = v then 1 else 0) = _
  rw [Int.toNat_of_nonneg hi, if_neg h, Int.add_zero]
theorem zct_g {K L : Int → Int} {v : Int} : ∀ k : Nat, (∀ i : Int, 0 ≤ i → i < k → K i = L i) → zct K v k = zct L v k
  | 0, _ => rfl
  | k + 1, h => by
    show zct K v k + _ = zct L v k + _
    rw [zct_g k (fun i a b => h i a (by omega)), h k (by omega) (by omega)]
/-- kinds are kinds -/
def zk3 (K : Int → Int) : Prop := ∀ j, 0 ≤ K j ∧ K j ≤ 3
theorem zk3_fill {K : Int → Int} {a t v : Int} (h : zk3 K) (hv : 0 ≤ v ∧ v ≤ 3) : zk3 (zfill K a t v) := fun j => by
  unfold zfill
  split
  · exact hv
  · exact h j
theorem zk3_row {f : Int → Int} {n y : Int} : ∀ (k : Nat) (p x : Int) (K : Int → Int), zk3 K → zk3 (zrow f n y k p x K).2.2
  | 0, _, _, _, h => h
  | k + 1, p, x, K, h => by
    unfold zrow
    split
    · exact h
    split
    · exact h
    split
    · exact h
    · rename_i h9
      have := zkd_r (zch f n (zp1 f n p))
      exact zk3_row k _ _ _ (zk3_fill h (by omega))
theorem zk3_R {f : Int → Int} {n y p : Int} {K : Int → Int} (h : zk3 K) : zk3 (zR f n y p K).2.2 := by
  unfold zR
  split
  · exact zk3_row _ _ _ _ h
  split
  · exact zk3_row _ _ _ _ h
  · exact zk3_row _ _ _ _ h
theorem zk3_M {f : Int → Int} {n : Int} : ∀ (k : Nat) (y p : Int) (K : Int → Int), zk3 K → zk3 (zM f n k y p K).2.2
  | 0, _, _, _, h => h
  | k + 1, y, p, K, h => by
    unfold zM
    split
    · exact h
    split
    · exact zk3_R h
    · exact zk3_M k _ _ _ (zk3_R h)
theorem zk3_Mk {f : Int → Int} {n : Int} {K : Int → Int} (h : zk3 K) : zk3 (zMk f n K).2.2 := by
  unfold zMk zN
  split
  · exact zk3_R h
  · exact zk3_M _ _ _ _ (zk3_R h)

theorem zch_lt {f : Int → Int} {n p : Int} (h : zch f n p ≠ -1) : p < n := by
  unfold zch at h
  by_cases q : p < n
  · exact q
  · exact absurd (if_neg q) h
def Zpost (Z : Int × Int × (Int → Int)) (r : Int) (T5 : Int → Int) (t3 t4 : Int) : Prop := T5 = Z.2.2 ∧ ((r = 1 ∧ Z.1 = 0 ∧ t3 = Z.2.1) ∨ (r = 0 ∧ Z.1 ≠ 0 ∧ t4 = Z.1))
section ZP
variable {Z : Int × Int × (Int → Int)} {e p r t3 t4 : Int} {K T5 : Int → Int}
theorem Zpost.bad (z : Z = (e, p, K)) (h5 : T5 = K) (hr : r = 0) (he : e ≠ 0) (h4 : t4 = e) : Zpost Z r T5 t3 t4 := by
  subst z; exact ⟨h5, Or.inr ⟨hr, he, h4⟩⟩
theorem Zpost.good (z : Z = (0, p, K)) (h5 : T5 = K) (hr : r = 1) (h3 : t3 = p) : Zpost Z r T5 t3 t4 := by
  subst z; exact ⟨h5, Or.inl ⟨hr, rfl, h3⟩⟩
theorem Zpost.cs (h : Zpost Z r T5 t3 t4) : (r = 1 ∧ Z = (0, t3, T5)) ∨ (r = 0 ∧ Z.1 ≠ 0 ∧ t4 = Z.1 ∧ Z.2.2 = T5) := by
  obtain ⟨h5, ⟨a, b, d⟩ | ⟨a, b, d⟩⟩ := h
  · refine Or.inl ⟨a, ?_⟩
    obtain ⟨z1, z2, z3⟩ := Z
    have b : z1 = 0 := b
    have d : t3 = z2 := d
    have h5 : T5 = z3 := h5
    rw [b, d, h5]
  · exact Or.inr ⟨a, b, d, h5.symm⟩
end ZP
section ZN
variable {f : Int → Int} {n y p q : Int} {K K2 : Int → Int} {k : Nat}
theorem zN_row_bad (h : (zrow f n y 10 p 0 K).1 ≠ 0) : zN f n k y p K = zrow f n y 10 p 0 K := by
  have e := zR_bad h
  exact (zN_bad (by rw [e]; exact h)).trans e
theorem zN_row_six (h : zrow f n y 10 p 0 K = (0, q, K2)) (hc : zkd (zch f n q) ≠ -1 ∨ 0 < ztm (zch f n q)) (hq : 0 ≤ q) : zN f n k y p K = (-6000 - q, q, K2) := by
  have e := zR_six h hc
  exact (zN_bad (by rw [e]; show -6000 - q ≠ 0; omega)).trans e
theorem zN_row_no (h : zrow f n y 10 p 0 K = (0, q, K2)) (hc : zkd (zch f n q) = -1 ∧ ztm (zch f n q) ≤ 0) (h47 : (0 < k ∧ zch f n q ≠ 47) ∨ (k = 0 ∧ zch f n q ≠ -1)) : zN f n k y p K = (-1000 - q, q, K2) := by
  rw [zN_ok (zR_ok h hc)]
  rcases h47 with ⟨a, b⟩ | ⟨a, b⟩
  · exact zM_no a b
  · rw [zM_end a, if_pos (zch_lt b)]
theorem zN_row_go {k2 : Nat} {y2 p2 : Int} {K3 : Int → Int} (h : zrow f n y 10 p 0 K = (0, q, K2)) (hc : zkd (zch f n q) = -1 ∧ ztm (zch f n q) ≤ 0) (hk : 0 < k) (h47 : zch f n q = 47) (e1 : k2 = k - 1) (e2 : y2 = y + 1) (e3 : p2 = q + 1) (e4 : K3 = K2) : zN f n k y p K = zN f n k2 y2 p2 K3 := by
  rw [zN_ok (zR_ok h hc), zM_go hk h47, e1, e2, e3, e4]
theorem zN_row_end (h : zrow f n y 10 p 0 K = (0, q, K2)) (hc : zkd (zch f n q) = -1 ∧ ztm (zch f n q) ≤ 0) (hk : k = 0) (hq : n ≤ q) : zN f n k y p K = (0, q, K2) := by
  rw [zN_ok (zR_ok h hc), zM_end hk, if_neg (by omega)]
end ZN
theorem ztm_cs (c : Int) : (c = 48 ∧ ztm c = 10) ∨ (50 ≤ c ∧ c ≤ 57 ∧ ztm c = c - 48) ∨ (c ≠ 48 ∧ (c < 50 ∨ 57 < c) ∧ ztm c = 0) := by
  unfold ztm
  (repeat' split) <;> omega
theorem zkd_cs (c : Int) : (c = 46 ∧ zkd c = 0) ∨ (c = 35 ∧ zkd c = 1) ∨ (c = 115 ∧ zkd c = 2) ∨ (c = 114 ∧ zkd c = 3) ∨ (c ≠ 46 ∧ c ≠ 35 ∧ c ≠ 115 ∧ c ≠ 114 ∧ zkd c = -1) := by
  unfold zkd
  (repeat' split) <;> omega
section ZQ
variable {f : Int → Int} {n y p q e r t3 t4 : Int} {K K2 T5 : Int → Int} {k : Nat}
theorem Zpost.rbad (z : zrow f n y 10 p 0 K = (e, q, K2)) (h5 : T5 = K2) (hr : r = 0) (he : e ≠ 0) (h4 : t4 = e) : Zpost (zR f n y p K) r T5 t3 t4 :=
  Zpost.bad ((zR_bad (by rw [z]; exact he)).trans z) h5 hr he h4
theorem zM_row_ok {k2 : Nat} {y2 p2 : Int} {K3 : Int → Int} (hk : 0 < k) (h47 : zch f n p = 47) (h : zR f n y (p + 1) K = (0, q, K2)) (e1 : k2 = k - 1) (e2 : y2 = y + 1) (e3 : p2 = q) (e4 : K3 = K2) : zM f n k y p K = zM f n k2 y2 p2 K3 := by
  rw [zM_go hk h47, zN_ok h, e1, e2, e3, e4]
theorem zM_row_bad (hk : 0 < k) (h47 : zch f n p = 47) (h : (zR f n y (p + 1) K).1 ≠ 0) : zM f n k y p K = zR f n y (p + 1) K := by
  rw [zM_go hk h47, zN_bad h]
end ZQ
/-! ===== sentences that run together ===== -/
/-- who has label b gets label a -/
def jn (a b : Int) (G : Int → Int) : Int → Int := fun i => if G i = b then a else G i
section ZT
variable {f G G2 : Int → Int} {g n : Int}
end ZT
set_option maxHeartbeats 4000000 in
set_option maxRecDepth 100000 in
theorem c_X8_failsM (l : Launch) (D : va_G) (g : xG) (T : Nat × Nat × Nat) (h0 : Nat) (s0 : xS) (hσ : xRR s0) (a : Int) (ra : xR a) (b : Int) (rb : xR b) (hab : 0 ≤ a ∧ a ≤ 9 ∧ 0 ≤ b ∧ b ≤ 300) (p0 : IC s0) : Met l yX8_fails (xws yX8_fails cX8_fails 3 (some .boolean)) { frames := 0, cells := 0, slots := 0, locals := 0 } (xP [.ref (h0 + 1), .int (xJ a), .int (xJ b)] D g T h0 s0) (xQi D g h0 (fun r τ => xFr (fun k => k = 1) s0 τ ∧ (((IC τ) ∧ (τ 1 1 = s0 1 1) ∧ (τ 1 2 = s0 1 2) ∧ (τ 1 3 = s0 1 3) ∧ True) ∧ (r = 0 ∧ τ 1 4 = -1000 * a - b)))) 0 0 (xA h0) := by
  refine x_met hσ (by decide) (Nat.le_of_ble_eq_true rfl) ?_
  intro p e s m args below meth c hx hb hr hml hown hT hlk hnm hE hW ls hl
  have hl : lv_has ls 3 [(0, .ref (h0 + 1)), (1, .int (xJ a)), (2, .int (xJ b))] := hl
  obtain ⟨Q, eQ⟩ : ∃ Q, Q = MQ below (xQi D g h0 (fun r τ => xFr (fun k => k = 1) s0 τ ∧ (((IC τ) ∧ (τ 1 1 = s0 1 1) ∧ (τ 1 2 = s0 1 2) ∧ (τ 1 3 = s0 1 3) ∧ True) ∧ (r = 0 ∧ τ 1 4 = -1000 * a - b)))) args s 0 0 (xA h0) := ⟨_, rfl⟩
  rw [← eQ]
  generalize hHe : ([] : List Loc) = locs at hW ⊢
  obtain ⟨H, eH⟩ : ∃ H, H = s.heap := ⟨_, rfl⟩
  rw [← eH] at hW ⊢
  have hF : xFr (fun k => k = 1) s0 s0 := xFr.rf
  have k1_1 : s0 1 1 = s0 1 1 := rfl
  have k1_2 : s0 1 2 = s0 1 2 := rfl
  have k1_3 : s0 1 3 = s0 1 3 := rfl
  refine x_aload_n hx hb hl 0 rfl dX8_fails_0 rfl ?_
  refine x_sipush hx hb dX8_fails_1 (by decide) ?_
  refine x_iload_n hx hb hl 1 rfl dX8_fails_4 rfl ?_
  refine x_imul hx hb dX8_fails_5 ?_
  refine x_iload_n hx hb hl 2 rfl dX8_fails_6 rfl ?_
  refine x_isub hx hb dX8_fails_7 ?_
  refine x_put (j := 4) hx hb hown hT hE hW cls_X8 (by decide) (fun σ => so_1 h0 g σ) (by decide) (st_X8_4 h0 s0 1 (((-1000) * a) - b)) (ln_X8_4 h0 _ _) wq204 rfl rfl rfl (by omega) dX8_fails_8 (fun H locs s1 es1 hW => ?_)
  have q2 : IC s1 := by rw [es1]; exact IC_1 p0 (by omega)
  have q3 : s1 1 1 = s0 1 1 := (show s1 1 1 = s0 1 1 from by rw [es1, xU_j _ _ (by decide)]).trans k1_1
  have q4 : s1 1 2 = s0 1 2 := (show s1 1 2 = s0 1 2 from by rw [es1, xU_j _ _ (by decide)]).trans k1_2
  have q5 : s1 1 3 = s0 1 3 := (show s1 1 3 = s0 1 3 from by rw [es1, xU_j _ _ (by decide)]).trans k1_3
  have q6 : s1 1 4 = (((-1000) * a) - b) := by rw [es1, xU_s]
  have hF7 := hF.put es1 (by omega)
  refine x_iconst hx hb dX8_fails_11 ?_
  rw [eQ]
  exact x_zret hx hb hr hlk hW (by omega) ⟨hF7, ⟨q2, q3, q4, q5, trivial⟩, by omega⟩ dX8_fails_12
set_option maxHeartbeats 4000000 in
set_option maxRecDepth 100000 in
theorem c_X8_passesM (l : Launch) (D : va_G) (g : xG) (T : Nat × Nat × Nat) (h0 : Nat) (s0 : xS) (hσ : xRR s0) (a : Int) (ra : xR a) (ha : -1 ≤ a ∧ a ≤ 255) (hat : 0 ≤ s0 1 3 ∧ s0 1 3 ≤ 260 ∧ s0 1 2 ≤ 260) (p0 : IC s0) : Met l yX8_passes (xws yX8_passes cX8_passes 2 (some .boolean)) { frames := 1, cells := 0, slots := 0, locals := 22 } (xP [.ref (h0 + 1), .int (xJ a)] D g T h0 s0) (xQi D g h0 (fun r τ => xFr (fun k => k = 1) s0 τ ∧ (((IC τ) ∧ (τ 1 1 = s0 1 1) ∧ (τ 1 2 = s0 1 2) ∧ True) ∧ ((r = 1 ∧ zch (s0 2) (s0 1 2) (s0 1 3) = a ∧ τ 1 3 = s0 1 3 + 1) ∨ (r = 0 ∧ zch (s0 2) (s0 1 2) (s0 1 3) ≠ a ∧ τ 1 3 = s0 1 3 ∧ τ 1 4 = -1000 - s0 1 3))))) 0 0 (xA h0) := by
  refine x_met hσ (by decide) (Nat.le_of_ble_eq_true rfl) ?_
  intro p e s m args below meth c hx hb hr hml hown hT hlk hnm hE hW ls hl
  have hl : lv_has ls 2 [(0, .ref (h0 + 1)), (1, .int (xJ a))] := hl
  obtain ⟨Q, eQ⟩ : ∃ Q, Q = MQ below (xQi D g h0 (fun r τ => xFr (fun k => k = 1) s0 τ ∧ (((IC τ) ∧ (τ 1 1 = s0 1 1) ∧ (τ 1 2 = s0 1 2) ∧ True) ∧ ((r = 1 ∧ zch (s0 2) (s0 1 2) (s0 1 3) = a ∧ τ 1 3 = s0 1 3 + 1) ∨ (r = 0 ∧ zch (s0 2) (s0 1 2) (s0 1 3) ≠ a ∧ τ 1 3 = s0 1 3 ∧ τ 1 4 = -1000 - s0 1 3))))) args s 0 0 (xA h0) := ⟨_, rfl⟩
  rw [← eQ]
  generalize hHe : ([] : List Loc) = locs at hW ⊢
  obtain ⟨H, eH⟩ : ∃ H, H = s.heap := ⟨_, rfl⟩
  rw [← eH] at hW ⊢
  have hF : xFr (fun k => k = 1) s0 s0 := xFr.rf
  have k1_1 : s0 1 1 = s0 1 1 := rfl
  have k1_2 : s0 1 2 = s0 1 2 := rfl
  have k1_3 : s0 1 3 = s0 1 3 := rfl
  refine x_aload_n hx hb hl 0 rfl dX8_passes_0 rfl ?_
  refine x_goi (x_runV (As := []) hx hb hml hown hT hE hW hl.1 (Or.inl (by decide)) (so_1 h0 g _) rfl cf_X8_sign wq581 wq4 wq600 (c_X8_sign l D g T h0 s0 hW.2.1 p0) ⟨rfl, rfl, ⟨by decide, by decide⟩, ⟨by decide, by decide⟩⟩ rfl rfl (Nat.le_of_ble_eq_true rfl) dX8_passes_1) hW (fun x1 s2 H locs rx1 hp3 hW => ?_)
  obtain ⟨es2, hp3⟩ := hp3
  subst es2
  have ghp3 := hp3
  have C1 : x1 = zch (s0 2) (s0 1 2) (s0 1 3) := zch_i (by omega)
  refine x_iload_n hx hb hl 1 rfl dX8_passes_4 rfl ?_
  refine x_icmp_eq (tgt := 18) hx hb rx1 ra dX8_passes_5 (by decide) (fun c4 => ?_) (fun c4 => ?_)
  · skip
    refine x_aload_n hx hb hl 0 rfl dX8_passes_18 rfl ?_
    refine lv_dup hx hb dX8_passes_19 rfl ?_
    refine x_get (j := 3) (v := .int (xJ (s0 1 3))) hx hb hown hT hE hW cls_X8 (Or.inl (by decide)) (so_1 h0 g _) (by decide) rfl wq200 dX8_passes_20 ?_
    refine x_rd hW (fun x5 ex5 rx5 => ?_)
    have fx5 : x5 = s0 1 3 := ex5.trans k1_3
    refine x_iconst hx hb dX8_passes_23 ?_
    refine x_iadd hx hb dX8_passes_24 ?_
    refine x_put (j := 3) hx hb hown hT hE hW cls_X8 (by decide) (fun σ => so_1 h0 g σ) (by decide) (st_X8_3 h0 s0 1 (x5 + 1)) (ln_X8_3 h0 _ _) wq200 rfl rfl rfl (by omega) dX8_passes_25 (fun H locs s6 es6 hW => ?_)
    have q7 : IC s6 := by rw [es6]; exact IC_1 p0 (by omega)
    have q8 : s6 1 1 = s0 1 1 := (show s6 1 1 = s0 1 1 from by rw [es6, xU_j _ _ (by decide)]).trans k1_1
    have q9 : s6 1 2 = s0 1 2 := (show s6 1 2 = s0 1 2 from by rw [es6, xU_j _ _ (by decide)]).trans k1_2
    have q10 : s6 1 3 = (x5 + 1) := by rw [es6, xU_s]
    have hF11 := hF.put es6 (by omega)
    refine x_iconst hx hb dX8_passes_28 ?_
    rw [eQ]
    exact x_zret hx hb hr hlk hW (by omega) ⟨hF11, ⟨q7, q8, q9, trivial⟩, by omega⟩ dX8_passes_29
  refine x_aload_n hx hb hl 0 rfl dX8_passes_8 rfl ?_
  refine x_iconst hx hb dX8_passes_9 ?_
  refine x_aload_n hx hb hl 0 rfl dX8_passes_10 rfl ?_
  refine x_get (j := 3) (v := .int (xJ (s0 1 3))) hx hb hown hT hE hW cls_X8 (Or.inl (by decide)) (so_1 h0 g _) (by decide) rfl wq200 dX8_passes_11 ?_
  refine x_rd hW (fun x12 ex12 rx12 => ?_)
  have fx12 : x12 = s0 1 3 := ex12.trans k1_3
  refine x_goi (x_runV (As := [.int (xJ 1), .int (xJ x12)]) hx hb hml hown hT hE hW hl.1 (Or.inl (by decide)) (so_1 h0 g _) rfl cf_X8_fails wq588 wq5 wq601 (c_X8_failsM l D g T h0 s0 hW.2.1 1 (by decide) x12 rx12 (by omega) p0) ⟨rfl, rfl, ⟨by decide, by decide⟩, ⟨by decide, by decide⟩⟩ rfl rfl (Nat.le_of_ble_eq_true rfl) dX8_passes_14) hW (fun x13 s14 H locs rx13 hp15 hW => ?_)
  obtain ⟨fs14, hp15⟩ := hp15
  have hF16 := hF.call fs14 (fun k h => by omega)
  have ghp15 := hp15.2
  rw [eQ]
  exact x_zret hx hb hr hlk hW (by omega) ⟨hF16, ⟨hp15.1.1, (hp15.1.2.1.trans k1_1), (hp15.1.2.2.1.trans k1_2), trivial⟩, by omega⟩ dX8_passes_17
set_option maxHeartbeats 4000000 in
set_option maxRecDepth 100000 in
theorem c_X8_openM (l : Launch) (D : va_G) (g : xG) (T : Nat × Nat × Nat) (h0 : Nat) (s0 : xS) (hσ : xRR s0) (n : Int) (rn : xR n) (hn : 0 ≤ n ∧ n ≤ s0 1 1) (p0 : IC s0) : Met l yX8_open (xws yX8_open cX8_open 2 none) { frames := 1, cells := 0, slots := 0, locals := 14 } (xP [.ref (h0 + 1), .int (xJ n)] D g T h0 s0) (xQv D g h0 (fun τ => xFr (fun k => k = 1) s0 τ ∧ (((IC τ) ∧ (τ 1 1 = s0 1 1) ∧ True) ∧ (τ 1 2 = n ∧ τ 1 3 = 0)))) 0 0 (xA h0) := by
  refine x_met hσ (by decide) (Nat.le_of_ble_eq_true rfl) ?_
  intro p e s m args below meth c hx hb hr hml hown hT hlk hnm hE hW ls hl
  have hl : lv_has ls 2 [(0, .ref (h0 + 1)), (1, .int (xJ n))] := hl
  obtain ⟨Q, eQ⟩ : ∃ Q, Q = MQ below (xQv D g h0 (fun τ => xFr (fun k => k = 1) s0 τ ∧ (((IC τ) ∧ (τ 1 1 = s0 1 1) ∧ True) ∧ (τ 1 2 = n ∧ τ 1 3 = 0)))) args s 0 0 (xA h0) := ⟨_, rfl⟩
  rw [← eQ]
  generalize hHe : ([] : List Loc) = locs at hW ⊢
  obtain ⟨H, eH⟩ : ∃ H, H = s.heap := ⟨_, rfl⟩
  rw [← eH] at hW ⊢
  have hF : xFr (fun k => k = 1) s0 s0 := xFr.rf
  have k1_1 : s0 1 1 = s0 1 1 := rfl
  refine x_aload_n hx hb hl 0 rfl dX8_open_0 rfl ?_
  refine x_iload_n hx hb hl 1 rfl dX8_open_1 rfl ?_
  refine x_aload_n hx hb hl 0 rfl dX8_open_2 rfl ?_
  refine x_get (j := 1) (v := .int (xJ (s0 1 1))) hx hb hown hT hE hW cls_X8 (Or.inl (by decide)) (so_1 h0 g _) (by decide) rfl wq197 dX8_open_3 ?_
  refine x_rd hW (fun x1 ex1 rx1 => ?_)
  have bx1 : 0 ≤ x1 ∧ x1 ≤ 260 := by rw [ex1]; exact IC.t p0
  have fx1 : x1 = s0 1 1 := ex1.trans k1_1
  refine x_mmin hx hb hml hl.1 hown hT wq568 wq569 wq180 wq570 ⟨by decide, Nat.le_of_ble_eq_true rfl, by decide, by decide⟩ rn rx1 dX8_open_6 ?_
  refine x_nm (fun x2 ex2 => ?_)
  have fx2 : (x2 = n ∧ n ≤ x1) ∨ (x2 = x1 ∧ x1 ≤ n) := by rw [ex2]; split <;> omega
  refine x_put (j := 2) hx hb hown hT hE hW cls_X8 (by decide) (fun σ => so_1 h0 g σ) (by decide) (st_X8_2 h0 s0 1 x2) (ln_X8_2 h0 _ _) wq199 rfl rfl rfl (by omega) dX8_open_9 (fun H locs s3 es3 hW => ?_)
  have q4 : IC s3 := by rw [es3]; exact IC_1 p0 (by omega)
  have q5 : s3 1 1 = s0 1 1 := (show s3 1 1 = s0 1 1 from by rw [es3, xU_j _ _ (by decide)]).trans k1_1
  have q6 : s3 1 2 = x2 := by rw [es3, xU_s]
  have hF7 := hF.put es3 (by omega)
  refine x_aload_n hx hb hl 0 rfl dX8_open_12 rfl ?_
  refine x_iconst hx hb dX8_open_13 ?_
  refine x_put (j := 3) hx hb hown hT hE hW cls_X8 (by decide) (fun σ => so_1 h0 g σ) (by decide) (st_X8_3 h0 s3 1 0) (ln_X8_3 h0 _ _) wq200 rfl rfl rfl (by decide) dX8_open_14 (fun H locs s8 es8 hW => ?_)
  have q9 : IC s8 := by rw [es8]; exact IC_1 q4 (by omega)
  have q10 : s8 1 1 = s0 1 1 := (show s8 1 1 = s3 1 1 from by rw [es8, xU_j _ _ (by decide)]).trans q5
  have q11 : s8 1 2 = x2 := (show s8 1 2 = s3 1 2 from by rw [es8, xU_j _ _ (by decide)]).trans q6
  have q12 : s8 1 3 = 0 := by rw [es8, xU_s]
  have hF13 := hF7.put es8 (by omega)
  refine x_aload_n hx hb hl 0 rfl dX8_open_17 rfl ?_
  refine x_iconst hx hb dX8_open_18 ?_
  refine x_put (j := 4) hx hb hown hT hE hW cls_X8 (by decide) (fun σ => so_1 h0 g σ) (by decide) (st_X8_4 h0 s8 1 0) (ln_X8_4 h0 _ _) wq204 rfl rfl rfl (by decide) dX8_open_19 (fun H locs s14 es14 hW => ?_)
  have q15 : IC s14 := by rw [es14]; exact IC_1 q9 (by omega)
  have q16 : s14 1 1 = s0 1 1 := (show s14 1 1 = s8 1 1 from by rw [es14, xU_j _ _ (by decide)]).trans q10
  have q17 : s14 1 2 = x2 := (show s14 1 2 = s8 1 2 from by rw [es14, xU_j _ _ (by decide)]).trans q11
  have q18 : s14 1 3 = 0 := (show s14 1 3 = s8 1 3 from by rw [es14, xU_j _ _ (by decide)]).trans q12
  have hF19 := hF13.put es14 (by omega)
  rw [eQ]
  exact x_vret hx hb hr hlk hW ⟨hF19, ⟨q15, q16, trivial⟩, by omega⟩ dX8_open_22
set_option maxHeartbeats 4000000 in
set_option maxRecDepth 100000 in
theorem c_X8_dropM (l : Launch) (D : va_G) (g : xG) (T : Nat × Nat × Nat) (h0 : Nat) (s0 : xS) (hσ : xRR s0) (p0 : IC s0) : Met l yX8_drop (xws yX8_drop cX8_drop 1 none) { frames := 0, cells := 0, slots := 0, locals := 0 } (xP [.ref (h0 + 1)] D g T h0 s0) (xQv D g h0 (fun τ => xFr (fun k => k = 1) s0 τ ∧ (((IC τ) ∧ (τ 1 1 = 0) ∧ (τ 1 4 = s0 1 4) ∧ True) ∧ (True)))) 0 0 (xA h0) := by
  refine x_met hσ (by decide) (Nat.le_of_ble_eq_true rfl) ?_
  intro p e s m args below meth c hx hb hr hml hown hT hlk hnm hE hW ls hl
  have hl : lv_has ls 1 [(0, .ref (h0 + 1))] := hl
  obtain ⟨Q, eQ⟩ : ∃ Q, Q = MQ below (xQv D g h0 (fun τ => xFr (fun k => k = 1) s0 τ ∧ (((IC τ) ∧ (τ 1 1 = 0) ∧ (τ 1 4 = s0 1 4) ∧ True) ∧ (True)))) args s 0 0 (xA h0) := ⟨_, rfl⟩
  rw [← eQ]
  generalize hHe : ([] : List Loc) = locs at hW ⊢
  obtain ⟨H, eH⟩ : ∃ H, H = s.heap := ⟨_, rfl⟩
  rw [← eH] at hW ⊢
  have hF : xFr (fun k => k = 1) s0 s0 := xFr.rf
  have k1_4 : s0 1 4 = s0 1 4 := rfl
  refine x_aload_n hx hb hl 0 rfl dX8_drop_0 rfl ?_
  refine x_iconst hx hb dX8_drop_1 ?_
  refine x_put (j := 1) hx hb hown hT hE hW cls_X8 (by decide) (fun σ => so_1 h0 g σ) (by decide) (st_X8_1 h0 s0 1 0) (ln_X8_1 h0 _ _) wq197 rfl rfl rfl (by decide) dX8_drop_2 (fun H locs s1 es1 hW => ?_)
  have q2 : IC s1 := by rw [es1]; exact IC_1 p0 (by omega)
  have q3 : s1 1 4 = s0 1 4 := (show s1 1 4 = s0 1 4 from by rw [es1, xU_j _ _ (by decide)]).trans k1_4
  have q4 : s1 1 1 = 0 := by rw [es1, xU_s]
  have hF5 := hF.put es1 (by omega)
  rw [eQ]
  exact x_vret hx hb hr hlk hW ⟨hF5, ⟨q2, q4, q3, trivial⟩, trivial⟩ dX8_drop_5
set_option maxHeartbeats 4000000 in
set_option maxRecDepth 100000 in
theorem c_X6_readRowM (l : Launch) (D : va_G) (g : xG) (T : Nat × Nat × Nat) (h0 : Nat) (s0 : xS) (hσ : xRR s0) (y : Int) (ry : xR y) (hy : 0 ≤ y ∧ y < 10) (hat : 0 ≤ s0 1 3 ∧ s0 1 3 ≤ s0 1 2 ∧ s0 1 2 ≤ 260) (p0 : IC s0) : Met l yX6_readRow (xws yX6_readRow cX6_readRow 8 (some .boolean)) { frames := 1, cells := 0, slots := 0, locals := 22 } (xP [.ref (h0 + 3), .ref (h0 + 1), .int (xJ y)] D g T h0 s0) (xQi D g h0 (fun r τ => xFr (fun k => k = 1 ∨ k = 5) s0 τ ∧ (((IC τ) ∧ (τ 1 1 = s0 1 1) ∧ (τ 1 2 = s0 1 2) ∧ True) ∧ (Zpost (zrow (s0 2) (s0 1 2) y 10 (s0 1 3) 0 (s0 5)) r (τ 5) (τ 1 3) (τ 1 4) ∧ 0 ≤ τ 1 3 ∧ τ 1 3 ≤ s0 1 2)))) 0 0 (xA h0) := by
  refine x_met hσ (by decide) (Nat.le_of_ble_eq_true rfl) ?_
  intro p e s m args below meth c hx hb hr hml hown hT hlk hnm hE hW ls hl
  have hl : lv_has ls 8 [(0, .ref (h0 + 3)), (1, .ref (h0 + 1)), (2, .int (xJ y))] := hl
  obtain ⟨Q, eQ⟩ : ∃ Q, Q = MQ below (xQi D g h0 (fun r τ => xFr (fun k => k = 1 ∨ k = 5) s0 τ ∧ (((IC τ) ∧ (τ 1 1 = s0 1 1) ∧ (τ 1 2 = s0 1 2) ∧ True) ∧ (Zpost (zrow (s0 2) (s0 1 2) y 10 (s0 1 3) 0 (s0 5)) r (τ 5) (τ 1 3) (τ 1 4) ∧ 0 ≤ τ 1 3 ∧ τ 1 3 ≤ s0 1 2)))) args s 0 0 (xA h0) := ⟨_, rfl⟩
  rw [← eQ]
  generalize hHe : ([] : List Loc) = locs at hW ⊢
  obtain ⟨H, eH⟩ : ∃ H, H = s.heap := ⟨_, rfl⟩
  rw [← eH] at hW ⊢
  have hF : xFr (fun k => k = 1 ∨ k = 5) s0 s0 := xFr.rf
  have k1_1 : s0 1 1 = s0 1 1 := rfl
  have k1_2 : s0 1 2 = s0 1 2 := rfl
  refine x_iconst hx hb dX6_readRow_0 ?_
  refine lv_istore_n (lv' := [(3, .int (xJ 0)), (0, .ref (h0 + 3)), (1, .ref (h0 + 1)), (2, .int (xJ y))]) hx hb dX6_readRow_1 rfl hl (by decide) rfl (fun ls hl => ?_)
  refine x_iconst hx hb dX6_readRow_2 ?_
  refine lv_istore (lv' := [(4, .int (xJ 0)), (3, .int (xJ 0)), (0, .ref (h0 + 3)), (1, .ref (h0 + 1)), (2, .int (xJ y))]) hx hb dX6_readRow_3 hl (by decide) rfl (fun ls hl => ?_)
  have L5 : ∀ (fu : Nat) (i3_5 : Int) (i4_5 : Int) (s_5 : xS) (H : Heap) (locs : List Loc) (ls : Array Slot), (xR i3_5) → (xR i4_5) → (xFr (fun k => k = 1 ∨ k = 5) s0 s_5) → (IC s_5) → (s_5 1 1 = s0 1 1) → (s_5 1 2 = s0 1 2) → (0 ≤ i4_5 ∧ i4_5 ≤ i3_5 ∧ i3_5 ≤ 10) → (0 ≤ s_5 1 3 ∧ s_5 1 3 ≤ s0 1 2) → (zRS (s0 2) (s0 1 2) y (zrow (s0 2) (s0 1 2) y 10 (s0 1 3) 0 (s0 5)) (s_5 1 3) i3_5 (s_5 5)) → (10 - i4_5).toNat < fu → xW D g h0 s H locs s_5 → lv_has ls 8 [(0, .ref (h0 + 3)), (1, .ref (h0 + 1)), (2, .int (xJ y)), (3, .int (xJ i3_5)), (4, .int (xJ i4_5))] → W p l e { frames := 1, cells := 0, slots := 0, locals := 22 } s m args below meth c H locs 0 0 Q (F0 m 5 ls []) := by
    intro fu
    induction fu with
    | zero => intro i3_5 i4_5 s_5 H locs ls ri3_5 ri4_5 hF_5 q5_0 q5_1 q5_2 v5_0 v5_1 v5_2 hm; exact absurd hm (Nat.not_lt_zero _)
    | succ fu ih5 =>
      intro i3_5 i4_5 s_5 H locs ls ri3_5 ri4_5 hF_5 q5_0 q5_1 q5_2 v5_0 v5_1 v5_2 hm hW hl
      refine x_iload hx hb hl 4 rfl dX6_readRow_5 ?_
      refine x_bipush hx hb dX6_readRow_7 (by decide) ?_
      refine x_icmp_ge (tgt := 144) hx hb ri4_5 (by decide) dX6_readRow_9 (by decide) (fun c1 => ?_) (fun c1 => ?_)
      · skip
        refine x_iconst hx hb dX6_readRow_144 ?_
        rw [eQ]
        exact x_zret hx hb hr hlk hW (by omega) ⟨hF_5, ⟨q5_0, q5_1, q5_2, trivial⟩, ⟨Zpost.good (v5_2.fin (by omega)) rfl (by omega) rfl, by omega, by omega⟩⟩ dX6_readRow_145
      refine x_iload_n hx hb hl 3 rfl dX6_readRow_12 rfl ?_
      refine x_bipush hx hb dX6_readRow_13 (by decide) ?_
      refine x_icmp_ge (tgt := 144) hx hb ri3_5 (by decide) dX6_readRow_15 (by decide) (fun c2 => ?_) (fun c2 => ?_)
      · skip
        refine x_iconst hx hb dX6_readRow_144 ?_
        rw [eQ]
        exact x_zret hx hb hr hlk hW (by omega) ⟨hF_5, ⟨q5_0, q5_1, q5_2, trivial⟩, ⟨Zpost.good (v5_2.fin (by omega)) rfl (by omega) rfl, by omega, by omega⟩⟩ dX6_readRow_145
      refine x_aload_n hx hb hl 1 rfl dX6_readRow_18 rfl ?_
      refine x_goi (x_runVN (As := []) hx hb hml hown hT hE hW hl.1 (Or.inl (by decide)) (so_1 h0 g _) rfl cf_X8_sign wq581 wq4 wn579 (c_X8_sign l D g T h0 s_5 hW.2.1 q5_0) ⟨rfl, rfl, ⟨by decide, by decide⟩, ⟨by decide, by decide⟩⟩ rfl rfl (Nat.le_of_ble_eq_true rfl) dX6_readRow_19) hW (fun x3 s4 H locs rx3 hp5 hW => ?_)
      obtain ⟨es4, hp5⟩ := hp5
      subst es4
      have ghp5 := hp5
      have C19 : x3 = zch (s0 2) (s0 1 2) (s_5 1 3) := zch_i (by have q := congrFun (hF_5 2 (by omega)) (s_5 1 3); omega)
      refine x_goi (x_runS (As := [.int (xJ x3)]) hx hb hml hown hT hE hW hl.1 cf_X6_timesOf wq584 wq583 (c_X6_timesOf l D g T h0 s_5 hW.2.1 x3 rx3) ⟨rfl, rfl, ⟨by decide, by decide⟩, ⟨by decide, by decide⟩⟩ rfl rfl (Nat.le_of_ble_eq_true rfl) dX6_readRow_22) hW (fun x6 s7 H locs rx6 hp8 hW => ?_)
      obtain ⟨es7, hp8⟩ := hp8
      subst es7
      have ghp8 := hp8
      have T22 := ztm_i ghp8
      rw [C19] at T22
      refine lv_istore (lv' := [(5, .int (xJ x6)), (0, .ref (h0 + 3)), (1, .ref (h0 + 1)), (2, .int (xJ y)), (3, .int (xJ i3_5)), (4, .int (xJ i4_5))]) hx hb dX6_readRow_25 hl (by decide) rfl (fun ls hl => ?_)
      refine x_iload_n hx hb hl 4 rfl dX6_readRow_27 rfl ?_
      refine x_iload hx hb hl 0 rfl dX6_readRow_28 ?_
      refine x_iadd hx hb dX6_readRow_30 ?_
      refine x_bipush hx hb dX6_readRow_31 (by decide) ?_
      refine x_icmp_le (tgt := 47) hx hb (by omega) (by decide) dX6_readRow_33 (by decide) (fun c9 => ?_) (fun c9 => ?_)
      · skip
        refine x_iload hx hb hl 0 rfl dX6_readRow_47 ?_
        have J62 : ∀ (s_62 : xS) (H : Heap) (locs : List Loc) (ls : Array Slot), (xFr (fun k => k = 1 ∨ k = 5) s0 s_62) → (IC s_62) → (s_62 1 1 = s0 1 1) → (s_62 1 2 = s0 1 2) → ((x6 > 0 ∧ s_62 1 3 = s_5 1 3 + 1 ∧ s_5 1 3 < s0 1 2) ∨ (x6 ≤ 0 ∧ s_62 1 3 = s_5 1 3)) → (s_62 5 = s_5 5) → xW D g h0 s H locs s_62 → lv_has ls 8 [(0, .ref (h0 + 3)), (1, .ref (h0 + 1)), (2, .int (xJ y)), (3, .int (xJ i3_5)), (4, .int (xJ i4_5)), (5, .int (xJ x6))] → W p l e { frames := 1, cells := 0, slots := 0, locals := 22 } s m args below meth c H locs 0 0 Q (F0 m 62 ls []) := by
          intro s_62 H locs ls hF_62 q62_0 q62_1 q62_2 v62_0 v62_1 hW hl
          refine x_aload_n hx hb hl 1 rfl dX6_readRow_62 rfl ?_
          refine x_goi (x_runVN (As := []) hx hb hml hown hT hE hW hl.1 (Or.inl (by decide)) (so_1 h0 g _) rfl cf_X8_sign wq581 wq4 wn579 (c_X8_sign l D g T h0 s_62 hW.2.1 q62_0) ⟨rfl, rfl, ⟨by decide, by decide⟩, ⟨by decide, by decide⟩⟩ rfl rfl (Nat.le_of_ble_eq_true rfl) dX6_readRow_63) hW (fun x10 s11 H locs rx10 hp12 hW => ?_)
          obtain ⟨es11, hp12⟩ := hp12
          subst es11
          have ghp12 := hp12
          have C63 : x10 = zch (s0 2) (s0 1 2) (s_62 1 3) := zch_i (by have q := congrFun (hF_62 2 (by omega)) (s_62 1 3); omega)
          refine x_goi (x_runS (As := [.int (xJ x10)]) hx hb hml hown hT hE hW hl.1 cf_X6_kindOf wq591 wq590 (c_X6_kindOf l D g T h0 s_62 hW.2.1 x10 rx10) ⟨rfl, rfl, ⟨by decide, by decide⟩, ⟨by decide, by decide⟩⟩ rfl rfl (Nat.le_of_ble_eq_true rfl) dX6_readRow_66) hW (fun x13 s14 H locs rx13 hp15 hW => ?_)
          obtain ⟨es14, hp15⟩ := hp15
          subst es14
          have ghp15 := hp15
          have T66 := zkd_i ghp15
          rw [C63] at T66
          refine lv_istore (lv' := [(6, .int (xJ x13)), (0, .ref (h0 + 3)), (1, .ref (h0 + 1)), (2, .int (xJ y)), (3, .int (xJ i3_5)), (4, .int (xJ i4_5)), (5, .int (xJ x6))]) hx hb dX6_readRow_69 hl (by decide) rfl (fun ls hl => ?_)
          refine x_iload hx hb hl 0 rfl dX6_readRow_71 ?_
          refine x_iconst hx hb dX6_readRow_73 ?_
          refine x_icmp_ne (tgt := 87) hx hb rx13 (by decide) dX6_readRow_74 (by decide) (fun c16 => ?_) (fun c16 => ?_)
          · skip
            refine x_aload_n hx hb hl 2 rfl dX6_readRow_87 rfl ?_
            refine lv_dup hx hb dX6_readRow_88 rfl ?_
            refine x_getN (j := 3) (v := .int (xJ (s_62 1 3))) hx hb hown hT hE hW cls_X8 (Or.inl (by decide)) (so_1 h0 g _) (by decide) rfl wn203 dX6_readRow_89 ?_
            refine x_rd hW (fun x17 ex17 rx17 => ?_)
            refine x_iconst hx hb dX6_readRow_92 ?_
            refine x_iadd hx hb dX6_readRow_93 ?_
            refine x_putN (j := 3) hx hb hown hT hE hW cls_X8 (by decide) (fun σ => so_1 h0 g σ) (by decide) (st_X8_3 h0 s_62 1 (x17 + 1)) (ln_X8_3 h0 _ _) wn203 rfl rfl rfl (by omega) dX6_readRow_94 (fun H locs s18 es18 hW => ?_)
            have q19 : IC s18 := by rw [es18]; exact IC_1 q62_0 (by omega)
            have q20 : s18 1 1 = s0 1 1 := (show s18 1 1 = s_62 1 1 from by rw [es18, xU_j _ _ (by decide)]).trans q62_1
            have q21 : s18 1 2 = s0 1 2 := (show s18 1 2 = s_62 1 2 from by rw [es18, xU_j _ _ (by decide)]).trans q62_2
            have q22 : s18 1 3 = (x17 + 1) := by rw [es18, xU_s]
            have hF23 := hF_62.put es18 (by omega)
            refine x_iload_n hx hb hl 4 rfl dX6_readRow_97 rfl ?_
            refine x_iload hx hb hl 6 rfl dX6_readRow_98 ?_
            refine x_iconst hx hb dX6_readRow_100 ?_
            refine x_mmax hx hb hml hl.1 hown hT wq593 wq594 wq180 wq595 ⟨by decide, Nat.le_of_ble_eq_true rfl, by decide, by decide⟩ rx6 (by decide) dX6_readRow_101 ?_
            refine x_nm (fun x24 ex24 => ?_)
            have fx24 : (x24 = x6 ∧ 1 ≤ x6) ∨ (x24 = 1 ∧ x6 ≤ 1) := by rw [ex24]; split <;> omega
            refine x_iadd hx hb dX6_readRow_104 ?_
            refine x_nm (fun x25 ex25 => ?_)
            refine lv_istore (lv' := [(7, .int (xJ x25)), (6, .int (xJ x13)), (0, .ref (h0 + 3)), (1, .ref (h0 + 1)), (2, .int (xJ y)), (3, .int (xJ i3_5)), (4, .int (xJ i4_5)), (5, .int (xJ x6))]) hx hb dX6_readRow_105 hl (by decide) rfl (fun ls hl => ?_)
            have L107 : ∀ (fu : Nat) (i3_107 : Int) (s_107 : xS) (H : Heap) (locs : List Loc) (ls : Array Slot), (xR i3_107) → (xFr (fun k => k = 1 ∨ k = 5) s0 s_107) → (IC s_107) → (s_107 1 1 = s0 1 1) → (s_107 1 2 = s0 1 2) → (s_107 1 3 = (x17 + 1)) → (i3_5 ≤ i3_107 ∧ i3_107 ≤ x25 ∧ i3_107 ≤ 10) → (s_107 5 = zfill (s_5 5) (10 * y + i3_5) (i3_107 - i3_5) x13) → (x25 - i3_107).toNat < fu → xW D g h0 s H locs s_107 → lv_has ls 8 [(0, .ref (h0 + 3)), (1, .ref (h0 + 1)), (2, .int (xJ y)), (3, .int (xJ i3_107)), (4, .int (xJ i4_5)), (6, .int (xJ x13)), (7, .int (xJ x25))] → W p l e { frames := 1, cells := 0, slots := 0, locals := 22 } s m args below meth c H locs 0 0 Q (F0 m 107 ls []) := by
              intro fu
              induction fu with
              | zero => intro i3_107 s_107 H locs ls ri3_107 hF_107 q107_0 q107_1 q107_2 q107_3 v107_0 v107_1 hm; exact absurd hm (Nat.not_lt_zero _)
              | succ fu ih107 =>
                intro i3_107 s_107 H locs ls ri3_107 hF_107 q107_0 q107_1 q107_2 q107_3 v107_0 v107_1 hm hW hl
                refine x_iload_n hx hb hl 3 rfl dX6_readRow_107 rfl ?_
                refine x_iload hx hb hl 6 rfl dX6_readRow_108 ?_
                refine x_icmp_ge (tgt := 138) hx hb ri3_107 (by omega) dX6_readRow_110 (by decide) (fun c26 => ?_) (fun c26 => ?_)
                · skip
                  refine x_iinc (lv' := [(4, .int (xJ (i4_5 + 1))), (0, .ref (h0 + 3)), (1, .ref (h0 + 1)), (2, .int (xJ y)), (3, .int (xJ i3_107)), (6, .int (xJ x13)), (7, .int (xJ x25))]) hx hb hl 4 rfl dX6_readRow_138 (by decide) rfl (fun ls hl => ?_)
                  refine lv_goto (tgt := 5) hx hb dX6_readRow_141 (by decide) ?_
                  exact ih5 i3_107 (i4_5 + 1) s_107 H locs ls ri3_107 (by omega) hF_107 q107_0 q107_1 q107_2 (by omega) (by omega) (v5_2.step (p1 := s_62 1 3) (v := x13) (by omega) T22 (by omega) (by omega) T66 (by omega) (by omega) (by omega) v107_1) (by omega) hW (lv_sub hl [1, 2, 3, 4, 0] rfl)
                refine x_iload_n hx hb hl 3 rfl dX6_readRow_113 rfl ?_
                refine x_bipush hx hb dX6_readRow_114 (by decide) ?_
                refine x_icmp_ge (tgt := 138) hx hb ri3_107 (by decide) dX6_readRow_116 (by decide) (fun c27 => ?_) (fun c27 => ?_)
                · skip
                  refine x_iinc (lv' := [(4, .int (xJ (i4_5 + 1))), (0, .ref (h0 + 3)), (1, .ref (h0 + 1)), (2, .int (xJ y)), (3, .int (xJ i3_107)), (6, .int (xJ x13)), (7, .int (xJ x25))]) hx hb hl 4 rfl dX6_readRow_138 (by decide) rfl (fun ls hl => ?_)
                  refine lv_goto (tgt := 5) hx hb dX6_readRow_141 (by decide) ?_
                  exact ih5 i3_107 (i4_5 + 1) s_107 H locs ls ri3_107 (by omega) hF_107 q107_0 q107_1 q107_2 (by omega) (by omega) (v5_2.step (p1 := s_62 1 3) (v := x13) (by omega) T22 (by omega) (by omega) T66 (by omega) (by omega) (by omega) v107_1) (by omega) hW (lv_sub hl [1, 2, 3, 4, 0] rfl)
                refine x_aload_n hx hb hl 0 rfl dX6_readRow_119 rfl ?_
                refine x_get (j := 1) (v := .ref (h0 + 5)) hx hb hown hT hE hW cls_X6 (Or.inl (by decide)) (so_3 h0 g _) (by decide) rfl wq227 dX6_readRow_120 ?_
                refine x_bipush hx hb dX6_readRow_123 (by decide) ?_
                refine x_iload_n hx hb hl 2 rfl dX6_readRow_125 rfl ?_
                refine x_imul hx hb dX6_readRow_126 ?_
                refine x_iload_n hx hb hl 3 rfl dX6_readRow_127 rfl ?_
                refine x_iadd hx hb dX6_readRow_128 ?_
                refine x_iload hx hb hl 5 rfl dX6_readRow_129 ?_
                refine x_iast hx hb hE hW (by decide) (fun σ => sa_5 h0 g σ) (by omega) (by decide) rx13 dX6_readRow_131 (fun H locs s28 es28 hW => ?_)
                have q29 : IC s28 := by rw [es28]; exact IC_o (by decide) q107_0
                have q30 : s28 1 1 = s0 1 1 := (show s28 1 1 = s_107 1 1 from by rw [es28, xU_k _ _ _ (by omega)]).trans q107_1
                have q31 : s28 1 2 = s0 1 2 := (show s28 1 2 = s_107 1 2 from by rw [es28, xU_k _ _ _ (by omega)]).trans q107_2
                have q32 : s28 1 3 = (x17 + 1) := (show s28 1 3 = s_107 1 3 from by rw [es28, xU_k _ _ _ (by omega)]).trans q107_3
                have hF33 := hF_107.put es28 (by omega)
                have A131 : s28 5 = zfill (s_5 5) (10 * y + i3_5) (i3_107 + 1 - i3_5) x13 := by rw [es28, xU_xud]; exact zfill_s v107_1 (by omega) (by omega) (by omega) rfl
                refine x_iinc (lv' := [(3, .int (xJ (i3_107 + 1))), (0, .ref (h0 + 3)), (1, .ref (h0 + 1)), (2, .int (xJ y)), (4, .int (xJ i4_5)), (6, .int (xJ x13)), (7, .int (xJ x25))]) hx hb hl 3 rfl dX6_readRow_132 (by decide) rfl (fun ls hl => ?_)
                refine lv_goto (tgt := 107) hx hb dX6_readRow_135 (by decide) ?_
                exact ih107 (i3_107 + 1) s28 H locs ls (by omega) hF33 q29 q30 q31 q32 (by omega) (A131) (by omega) hW (lv_sub hl [1, 2, 3, 0, 4, 5, 6] rfl)
            exact L107 ((x25 - i3_5 : Int).toNat + 1) i3_5 s18 H locs ls ri3_5 hF23 q19 q20 q21 q22 (by omega) (by rw [es18, xU_k _ _ _ (by omega), v62_1]; exact zfill_0 _ _ _ (by omega)) (Nat.lt_succ_self _) hW (lv_sub hl [2, 3, 4, 5, 6, 1, 0] rfl)
          refine x_aload_n hx hb hl 2 rfl dX6_readRow_77 rfl ?_
          refine x_iconst hx hb dX6_readRow_78 ?_
          refine x_aload_n hx hb hl 2 rfl dX6_readRow_79 rfl ?_
          refine x_getN (j := 3) (v := .int (xJ (s_62 1 3))) hx hb hown hT hE hW cls_X8 (Or.inl (by decide)) (so_1 h0 g _) (by decide) rfl wn203 dX6_readRow_80 ?_
          refine x_rd hW (fun x34 ex34 rx34 => ?_)
          refine x_goi (x_runVN (As := [.int (xJ 1), .int (xJ x34)]) hx hb hml hown hT hE hW hl.1 (Or.inl (by decide)) (so_1 h0 g _) rfl cf_X8_fails wq588 wq5 wn586 (c_X8_failsM l D g T h0 s_62 hW.2.1 1 (by decide) x34 rx34 (by omega) q62_0) ⟨rfl, rfl, ⟨by decide, by decide⟩, ⟨by decide, by decide⟩⟩ rfl rfl (Nat.le_of_ble_eq_true rfl) dX6_readRow_83) hW (fun x35 s36 H locs rx35 hp37 hW => ?_)
          obtain ⟨fs36, hp37⟩ := hp37
          have hF38 := hF_62.call fs36 (fun k h => by omega)
          have ghp37 := hp37.2
          rw [eQ]
          exact x_zret hx hb hr hlk hW (by omega) ⟨hF38, ⟨hp37.1.1, (hp37.1.2.1.trans q62_1), (hp37.1.2.2.1.trans q62_2), trivial⟩, ⟨Zpost.bad (v5_2.one (p1 := s_62 1 3) (by omega) T22 (by omega) (by omega) (by omega)) ((fs36 5 (by omega)).trans v62_1) (by omega) (by omega) (by omega), by omega, by omega⟩⟩ dX6_readRow_86
        refine x_if_le (tgt := 62) hx hb rx6 dX6_readRow_49 (by decide) (fun c39 => ?_) (fun c39 => ?_)
        · skip
          exact J62 s_5 H locs ls hF_5 q5_0 q5_1 q5_2 (by omega) (by first | rfl | rw [es_5, xU_k _ _ _ (by omega)]) hW (lv_sub hl [1, 2, 3, 4, 5, 0] rfl)
        refine x_aload_n hx hb hl 2 rfl dX6_readRow_52 rfl ?_
        refine lv_dup hx hb dX6_readRow_53 rfl ?_
        refine x_getN (j := 3) (v := .int (xJ (s_5 1 3))) hx hb hown hT hE hW cls_X8 (Or.inl (by decide)) (so_1 h0 g _) (by decide) rfl wn203 dX6_readRow_54 ?_
        refine x_rd hW (fun x40 ex40 rx40 => ?_)
        refine x_iconst hx hb dX6_readRow_57 ?_
        refine x_iadd hx hb dX6_readRow_58 ?_
        refine x_putN (j := 3) hx hb hown hT hE hW cls_X8 (by decide) (fun σ => so_1 h0 g σ) (by decide) (st_X8_3 h0 s_5 1 (x40 + 1)) (ln_X8_3 h0 _ _) wn203 rfl rfl rfl (by omega) dX6_readRow_59 (fun H locs s41 es41 hW => ?_)
        have q42 : IC s41 := by rw [es41]; exact IC_1 q5_0 (by omega)
        have q43 : s41 1 1 = s0 1 1 := (show s41 1 1 = s_5 1 1 from by rw [es41, xU_j _ _ (by decide)]).trans q5_1
        have q44 : s41 1 2 = s0 1 2 := (show s41 1 2 = s_5 1 2 from by rw [es41, xU_j _ _ (by decide)]).trans q5_2
        have q45 : s41 1 3 = (x40 + 1) := by rw [es41, xU_s]
        have hF46 := hF_5.put es41 (by omega)
        exact J62 s41 H locs ls hF46 q42 q43 q44 (by omega) (by first | rfl | rw [es41, xU_k _ _ _ (by omega)]) hW (lv_sub hl [1, 2, 3, 4, 5, 0] rfl)
      refine x_aload_n hx hb hl 2 rfl dX6_readRow_36 rfl ?_
      refine x_bipush hx hb dX6_readRow_37 (by decide) ?_
      refine x_aload_n hx hb hl 2 rfl dX6_readRow_39 rfl ?_
      refine x_getN (j := 3) (v := .int (xJ (s_5 1 3))) hx hb hown hT hE hW cls_X8 (Or.inl (by decide)) (so_1 h0 g _) (by decide) rfl wn203 dX6_readRow_40 ?_
      refine x_rd hW (fun x47 ex47 rx47 => ?_)
      refine x_goi (x_runVN (As := [.int (xJ 6), .int (xJ x47)]) hx hb hml hown hT hE hW hl.1 (Or.inl (by decide)) (so_1 h0 g _) rfl cf_X8_fails wq588 wq5 wn586 (c_X8_failsM l D g T h0 s_5 hW.2.1 6 (by decide) x47 rx47 (by omega) q5_0) ⟨rfl, rfl, ⟨by decide, by decide⟩, ⟨by decide, by decide⟩⟩ rfl rfl (Nat.le_of_ble_eq_true rfl) dX6_readRow_43) hW (fun x48 s49 H locs rx48 hp50 hW => ?_)
      obtain ⟨fs49, hp50⟩ := hp50
      have hF51 := hF_5.call fs49 (fun k h => by omega)
      have ghp50 := hp50.2
      rw [eQ]
      exact x_zret hx hb hr hlk hW (by omega) ⟨hF51, ⟨hp50.1.1, (hp50.1.2.1.trans q5_1), (hp50.1.2.2.1.trans q5_2), trivial⟩, ⟨Zpost.bad (v5_2.six (by omega) (by omega)) (fs49 5 (by omega)) (by omega) (by omega) (by omega), by omega, by omega⟩⟩ dX6_readRow_46
  exact L5 ((10 - 0 : Int).toNat + 1) 0 0 s0 H locs ls (by decide) (by decide) hF p0 k1_1 k1_2 (by omega) (by omega) (zRS.new) (Nat.lt_succ_self _) hW (lv_sub hl [2, 3, 4, 1, 0] rfl)
set_option maxHeartbeats 4000000 in
set_option maxRecDepth 100000 in
theorem c_X6_howManyM (l : Launch) (D : va_G) (g : xG) (T : Nat × Nat × Nat) (h0 : Nat) (s0 : xS) (hσ : xRR s0) (x : Int) (rx : xR x) (p0 : IC s0) : Met l yX6_howMany (xws yX6_howMany cX6_howMany 4 (some .int)) { frames := 0, cells := 0, slots := 0, locals := 0 } (xP [.ref (h0 + 3), .int (xJ x)] D g T h0 s0) (xQi D g h0 (fun r τ => s0 = τ ∧ (0 ≤ r ∧ r ≤ 100 ∧ r = zct (s0 4) x 100))) 0 0 (xA h0) := by
  refine x_met hσ (by decide) (Nat.le_of_ble_eq_true rfl) ?_
  intro p e s m args below meth c hx hb hr hml hown hT hlk hnm hE hW ls hl
  have hl : lv_has ls 4 [(0, .ref (h0 + 3)), (1, .int (xJ x))] := hl
  obtain ⟨Q, eQ⟩ : ∃ Q, Q = MQ below (xQi D g h0 (fun r τ => s0 = τ ∧ (0 ≤ r ∧ r ≤ 100 ∧ r = zct (s0 4) x 100))) args s 0 0 (xA h0) := ⟨_, rfl⟩
  rw [← eQ]
  generalize hHe : ([] : List Loc) = locs at hW ⊢
  obtain ⟨H, eH⟩ : ∃ H, H = s.heap := ⟨_, rfl⟩
  rw [← eH] at hW ⊢
  have k1_1 : s0 1 1 = s0 1 1 := rfl
  refine x_iconst hx hb dX6_howMany_0 ?_
  refine lv_istore_n (lv' := [(2, .int (xJ 0)), (0, .ref (h0 + 3)), (1, .int (xJ x))]) hx hb dX6_howMany_1 rfl hl (by decide) rfl (fun ls hl => ?_)
  refine x_iconst hx hb dX6_howMany_2 ?_
  refine lv_istore_n (lv' := [(3, .int (xJ 0)), (2, .int (xJ 0)), (0, .ref (h0 + 3)), (1, .int (xJ x))]) hx hb dX6_howMany_3 rfl hl (by decide) rfl (fun ls hl => ?_)
  have L4 : ∀ (fu : Nat) (i2_4 : Int) (i3_4 : Int) (ls : Array Slot), (xR i2_4) → (xR i3_4) → (0 ≤ i3_4 ∧ i3_4 ≤ 100) → (0 ≤ i2_4 ∧ i2_4 ≤ i3_4) → (i2_4 = zct (s0 4) x (i3_4).toNat) → (100 - i3_4).toNat < fu → lv_has ls 4 [(0, .ref (h0 + 3)), (1, .int (xJ x)), (2, .int (xJ i2_4)), (3, .int (xJ i3_4))] → W p l e { frames := 0, cells := 0, slots := 0, locals := 0 } s m args below meth c H locs 0 0 Q (F0 m 4 ls []) := by
    intro fu
    induction fu with
    | zero => intro i2_4 i3_4 ls ri2_4 ri3_4 v4_0 v4_1 v4_2 hm; exact absurd hm (Nat.not_lt_zero _)
    | succ fu ih4 =>
      intro i2_4 i3_4 ls ri2_4 ri3_4 v4_0 v4_1 v4_2 hm  hl
      refine x_iload_n hx hb hl 3 rfl dX6_howMany_4 rfl ?_
      refine x_bipush hx hb dX6_howMany_5 (by decide) ?_
      refine x_icmp_ge (tgt := 29) hx hb ri3_4 (by decide) dX6_howMany_7 (by decide) (fun c1 => ?_) (fun c1 => ?_)
      · skip
        refine x_iload_n hx hb hl 2 rfl dX6_howMany_29 rfl ?_
        rw [eQ]
        exact x_iret hx hb hr hlk hW ri2_4 ⟨rfl, ⟨by omega, by omega, by rw [show (100 : Nat) = (i3_4).toNat from by omega]; exact v4_2⟩⟩ dX6_howMany_30
      refine x_aload_n hx hb hl 0 rfl dX6_howMany_10 rfl ?_
      refine x_get (j := 0) (v := .ref (h0 + 4)) hx hb hown hT hE hW cls_X6 (Or.inl (by decide)) (so_3 h0 g _) (by decide) rfl wq226 dX6_howMany_11 ?_
      refine x_iload_n hx hb hl 3 rfl dX6_howMany_14 rfl ?_
      refine x_iald hx hb hE hW (Or.inl (by decide)) (sa_4 h0 g _) (by omega) (by decide) dX6_howMany_15 ?_
      refine x_rd hW (fun x2 ex2 rx2 => ?_)
      refine x_iload_n hx hb hl 1 rfl dX6_howMany_16 rfl ?_
      refine x_icmp_ne (tgt := 23) hx hb rx2 rx dX6_howMany_17 (by decide) (fun c3 => ?_) (fun c3 => ?_)
      · skip
        refine x_iinc (lv' := [(3, .int (xJ (i3_4 + 1))), (0, .ref (h0 + 3)), (1, .int (xJ x)), (2, .int (xJ i2_4))]) hx hb hl 3 rfl dX6_howMany_23 (by decide) rfl (fun ls hl => ?_)
        refine lv_goto (tgt := 4) hx hb dX6_howMany_26 (by decide) ?_
        exact ih4 i2_4 (i3_4 + 1) ls ri2_4 (by omega) (by omega) (by omega) (by first | (rw [zct_y (by omega) (by omega)]; omega) | (rw [zct_n (by omega) (by omega)]; omega)) (by omega)  (lv_sub hl [1, 2, 3, 0] rfl)
      refine x_iinc (lv' := [(2, .int (xJ (i2_4 + 1))), (0, .ref (h0 + 3)), (1, .int (xJ x)), (3, .int (xJ i3_4))]) hx hb hl 2 rfl dX6_howMany_20 (by decide) rfl (fun ls hl => ?_)
      refine x_iinc (lv' := [(3, .int (xJ (i3_4 + 1))), (2, .int (xJ (i2_4 + 1))), (0, .ref (h0 + 3)), (1, .int (xJ x))]) hx hb hl 3 rfl dX6_howMany_23 (by decide) rfl (fun ls hl => ?_)
      refine lv_goto (tgt := 4) hx hb dX6_howMany_26 (by decide) ?_
      exact ih4 (i2_4 + 1) (i3_4 + 1) ls (by omega) (by omega) (by omega) (by omega) (by first | (rw [zct_y (by omega) (by omega)]; omega) | (rw [zct_n (by omega) (by omega)]; omega)) (by omega)  (lv_sub hl [2, 3, 1, 0] rfl)
  exact L4 ((100 - 0 : Int).toNat + 1) 0 0 ls (by decide) (by decide) (by omega) (by omega) (rfl) (Nat.lt_succ_self _)  (lv_sub hl [2, 3, 1, 0] rfl)
set_option maxHeartbeats 4000000 in
set_option maxRecDepth 100000 in
theorem c_X6_isOpenM (l : Launch) (D : va_G) (g : xG) (T : Nat × Nat × Nat) (h0 : Nat) (s0 : xS) (hσ : xRR s0) (x : Int) (rx : xR x) (p0 : IC s0) : Met l yX6_isOpen (xws yX6_isOpen cX6_isOpen 3 (some .boolean)) { frames := 1, cells := 0, slots := 0, locals := 21 } (xP [.ref (h0 + 3), .int (xJ x)] D g T h0 s0) (xQi D g h0 (fun r τ => s0 = τ ∧ ((r = 1 ∧ 0 ≤ x ∧ x < 100 ∧ s0 4 x ≠ 1 ∧ s0 4 x ≠ 3) ∨ (r = 0 ∧ ¬ (0 ≤ x ∧ x < 100 ∧ s0 4 x ≠ 1 ∧ s0 4 x ≠ 3))))) 0 0 (xA h0) := by
  refine x_met hσ (by decide) (Nat.le_of_ble_eq_true rfl) ?_
  intro p e s m args below meth c hx hb hr hml hown hT hlk hnm hE hW ls hl
  have hl : lv_has ls 3 [(0, .ref (h0 + 3)), (1, .int (xJ x))] := hl
  obtain ⟨Q, eQ⟩ : ∃ Q, Q = MQ below (xQi D g h0 (fun r τ => s0 = τ ∧ ((r = 1 ∧ 0 ≤ x ∧ x < 100 ∧ s0 4 x ≠ 1 ∧ s0 4 x ≠ 3) ∨ (r = 0 ∧ ¬ (0 ≤ x ∧ x < 100 ∧ s0 4 x ≠ 1 ∧ s0 4 x ≠ 3))))) args s 0 0 (xA h0) := ⟨_, rfl⟩
  rw [← eQ]
  generalize hHe : ([] : List Loc) = locs at hW ⊢
  obtain ⟨H, eH⟩ : ∃ H, H = s.heap := ⟨_, rfl⟩
  rw [← eH] at hW ⊢
  have k1_1 : s0 1 1 = s0 1 1 := rfl
  refine x_aload_n hx hb hl 0 rfl dX6_isOpen_0 rfl ?_
  refine x_iload_n hx hb hl 1 rfl dX6_isOpen_1 rfl ?_
  refine x_goi (x_runV (As := [.int (xJ x)]) hx hb hml hown hT hE hW hl.1 (Or.inl (by decide)) (so_3 h0 g _) rfl cf_X6_kindAt wq619 wq10 wq617 (c_X6_kindAt l D g T h0 s0 hW.2.1 x rx p0) ⟨rfl, rfl, ⟨by decide, by decide⟩, ⟨by decide, by decide⟩⟩ rfl rfl (Nat.le_of_ble_eq_true rfl) dX6_isOpen_2) hW (fun x1 s2 H locs rx1 hp3 hW => ?_)
  obtain ⟨es2, hp3⟩ := hp3
  subst es2
  have ghp3 := hp3
  refine lv_istore_n (lv' := [(2, .int (xJ x1)), (0, .ref (h0 + 3)), (1, .int (xJ x))]) hx hb dX6_isOpen_5 rfl hl (by decide) rfl (fun ls hl => ?_)
  refine x_iload_n hx hb hl 0 rfl dX6_isOpen_6 rfl ?_
  refine x_iconst hx hb dX6_isOpen_7 ?_
  refine x_icmp_eq (tgt := 20) hx hb rx1 (by decide) dX6_isOpen_8 (by decide) (fun c4 => ?_) (fun c4 => ?_)
  · skip
    refine x_iconst hx hb dX6_isOpen_20 ?_
    rw [eQ]
    exact x_zret hx hb hr hlk hW (by omega) ⟨rfl, by omega⟩ dX6_isOpen_21
  refine x_iload_n hx hb hl 0 rfl dX6_isOpen_11 rfl ?_
  refine x_iconst hx hb dX6_isOpen_12 ?_
  refine x_icmp_eq (tgt := 20) hx hb rx1 (by decide) dX6_isOpen_13 (by decide) (fun c5 => ?_) (fun c5 => ?_)
  · skip
    refine x_iconst hx hb dX6_isOpen_20 ?_
    rw [eQ]
    exact x_zret hx hb hr hlk hW (by omega) ⟨rfl, by omega⟩ dX6_isOpen_21
  refine x_iconst hx hb dX6_isOpen_16 ?_
  refine lv_goto (tgt := 21) hx hb dX6_isOpen_17 (by decide) ?_
  rw [eQ]
  exact x_zret hx hb hr hlk hW (by omega) ⟨rfl, by omega⟩ dX6_isOpen_21
set_option maxHeartbeats 4000000 in
set_option maxRecDepth 100000 in
theorem c_X6_openSpotM (l : Launch) (D : va_G) (g : xG) (T : Nat × Nat × Nat) (h0 : Nat) (s0 : xS) (hσ : xRR s0) (x : Int) (rx : xR x) (y : Int) (ry : xR y) (p0 : IC s0) : Met l yX6_openSpot (xws yX6_openSpot cX6_openSpot 4 (some .int)) { frames := 2, cells := 0, slots := 0, locals := 43 } (xP [.ref (h0 + 3), .int (xJ x), .int (xJ y)] D g T h0 s0) (xQi D g h0 (fun r τ => s0 = τ ∧ ((r = 10 * y + x ∧ (0 ≤ x ∧ x < 10 ∧ 0 ≤ y ∧ y < 10 ∧ s0 4 (10 * y + x) ≠ 1 ∧ s0 4 (10 * y + x) ≠ 3)) ∨ (r = -1 ∧ ¬ (0 ≤ x ∧ x < 10 ∧ 0 ≤ y ∧ y < 10 ∧ s0 4 (10 * y + x) ≠ 1 ∧ s0 4 (10 * y + x) ≠ 3))))) 0 0 (xA h0) := by
  refine x_met hσ (by decide) (Nat.le_of_ble_eq_true rfl) ?_
  intro p e s m args below meth c hx hb hr hml hown hT hlk hnm hE hW ls hl
  have hl : lv_has ls 4 [(0, .ref (h0 + 3)), (1, .int (xJ x)), (2, .int (xJ y))] := hl
  obtain ⟨Q, eQ⟩ : ∃ Q, Q = MQ below (xQi D g h0 (fun r τ => s0 = τ ∧ ((r = 10 * y + x ∧ (0 ≤ x ∧ x < 10 ∧ 0 ≤ y ∧ y < 10 ∧ s0 4 (10 * y + x) ≠ 1 ∧ s0 4 (10 * y + x) ≠ 3)) ∨ (r = -1 ∧ ¬ (0 ≤ x ∧ x < 10 ∧ 0 ≤ y ∧ y < 10 ∧ s0 4 (10 * y + x) ≠ 1 ∧ s0 4 (10 * y + x) ≠ 3))))) args s 0 0 (xA h0) := ⟨_, rfl⟩
  rw [← eQ]
  generalize hHe : ([] : List Loc) = locs at hW ⊢
  obtain ⟨H, eH⟩ : ∃ H, H = s.heap := ⟨_, rfl⟩
  rw [← eH] at hW ⊢
  have k1_1 : s0 1 1 = s0 1 1 := rfl
  refine x_iload_n hx hb hl 1 rfl dX6_openSpot_0 rfl ?_
  refine x_iload_n hx hb hl 2 rfl dX6_openSpot_1 rfl ?_
  refine x_goi (x_runS (As := [.int (xJ x), .int (xJ y)]) hx hb hml hown hT hE hW hl.1 cf_X6_spotAt wq708 wq707 (c_X6_spotAt l D g T h0 s0 hW.2.1 x rx y ry) ⟨rfl, rfl, ⟨by decide, by decide⟩, ⟨by decide, by decide⟩⟩ rfl rfl (Nat.le_of_ble_eq_true rfl) dX6_openSpot_2) hW (fun x1 s2 H locs rx1 hp3 hW => ?_)
  obtain ⟨es2, hp3⟩ := hp3
  subst es2
  have ghp3 := hp3
  refine lv_istore_n (lv' := [(3, .int (xJ x1)), (0, .ref (h0 + 3)), (1, .int (xJ x)), (2, .int (xJ y))]) hx hb dX6_openSpot_5 rfl hl (by decide) rfl (fun ls hl => ?_)
  refine x_aload_n hx hb hl 1 rfl dX6_openSpot_6 rfl ?_
  refine x_iload_n hx hb hl 0 rfl dX6_openSpot_7 rfl ?_
  refine x_goi (x_runV (As := [.int (xJ x1)]) hx hb hml hown hT hE hW hl.1 (Or.inl (by decide)) (so_3 h0 g _) rfl cf_X6_isOpen wq615 wq9 wq710 (c_X6_isOpenM l D g T h0 s0 hW.2.1 x1 rx1 p0) ⟨rfl, rfl, ⟨by decide, by decide⟩, ⟨by decide, by decide⟩⟩ rfl rfl (Nat.le_of_ble_eq_true rfl) dX6_openSpot_8) hW (fun x4 s5 H locs rx4 hp6 hW => ?_)
  obtain ⟨es5, hp6⟩ := hp6
  subst es5
  have ghp6 := hp6
  have W8 : x1 = 10 * y + x → s0 4 x1 = s0 4 (10 * y + x) := fun h => by rw [h]
  refine x_if_eq (tgt := 18) hx hb rx4 dX6_openSpot_11 (by decide) (fun c7 => ?_) (fun c7 => ?_)
  · skip
    refine x_iconst hx hb dX6_openSpot_18 ?_
    rw [eQ]
    exact x_iret hx hb hr hlk hW (by decide) ⟨rfl, by omega⟩ dX6_openSpot_19
  refine x_iload_n hx hb hl 0 rfl dX6_openSpot_14 rfl ?_
  refine lv_goto (tgt := 19) hx hb dX6_openSpot_15 (by decide) ?_
  rw [eQ]
  exact x_iret hx hb hr hlk hW rx1 ⟨rfl, by omega⟩ dX6_openSpot_19

