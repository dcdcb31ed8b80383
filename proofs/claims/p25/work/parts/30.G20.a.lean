theorem cf_X11_endsPiece : xCF yX11_endsPiece cX11_endsPiece 1 none 0 := ⟨xq 1524 (by decide +kernel) rfl, xq 179 (by decide +kernel) rfl, by decide +kernel⟩
theorem cf_X11_readsSum : xCF yX11_readsSum cX11_readsSum 3 (some .boolean) 0 := ⟨xq 1473 (by decide +kernel) rfl, xq 179 (by decide +kernel) rfl, by decide +kernel⟩
theorem wq116 : Cond.selects yX11_readsSum.cls yX11_readsSum yX11_readsSum ∈ xTB := xq 116 (by decide +kernel) rfl
theorem wq127 : Cond.selects yX11_endsPiece.cls yX11_endsPiece yX11_endsPiece ∈ xTB := xq 127 (by decide +kernel) rfl
theorem wq1470 : Cond.methodLink "ShadowCourtModel" (233) yX11_readsSum ∈ xTB := xq 1470 (by decide +kernel) rfl
theorem wq1472 : Cond.instanceMethod yX11_readsSum ∈ xTB := xq 1472 (by decide +kernel) rfl
theorem wq1521 : Cond.methodLink "ShadowCourtModel" (236) yX11_endsPiece ∈ xTB := xq 1521 (by decide +kernel) rfl
theorem wq1523 : Cond.instanceMethod yX11_endsPiece ∈ xTB := xq 1523 (by decide +kernel) rfl
theorem dX11_endsPiece_0 : decode cX11_endsPiece 0 = .ok (.aload_n 0, 1) := by decide +kernel
theorem dX11_endsPiece_1 : decode cX11_endsPiece 1 = .ok (.invokevirtual 204, 3) := by decide +kernel
theorem dX11_endsPiece_4 : decode cX11_endsPiece 4 = .ok (.bipush 10, 2) := by decide +kernel
theorem dX11_endsPiece_6 : decode cX11_endsPiece 6 = .ok (.if_icmp .ne 33, 3) := by decide +kernel
theorem dX11_endsPiece_9 : decode cX11_endsPiece 9 = .ok (.aload_n 0, 1) := by decide +kernel
theorem dX11_endsPiece_10 : decode cX11_endsPiece 10 = .ok (.bipush 10, 2) := by decide +kernel
theorem dX11_endsPiece_12 : decode cX11_endsPiece 12 = .ok (.iconst 0, 1) := by decide +kernel
theorem dX11_endsPiece_13 : decode cX11_endsPiece 13 = .ok (.invokevirtual 207, 3) := by decide +kernel
theorem dX11_endsPiece_16 : decode cX11_endsPiece 16 = .ok (.aload_n 0, 1) := by decide +kernel
theorem dX11_endsPiece_17 : decode cX11_endsPiece 17 = .ok (.aload_n 0, 1) := by decide +kernel
theorem dX11_endsPiece_18 : decode cX11_endsPiece 18 = .ok (.getfield 201, 3) := by decide +kernel
theorem dX11_endsPiece_21 : decode cX11_endsPiece 21 = .ok (.iconst 1, 1) := by decide +kernel
theorem dX11_endsPiece_22 : decode cX11_endsPiece 22 = .ok (.isub, 1) := by decide +kernel
theorem dX11_endsPiece_23 : decode cX11_endsPiece 23 = .ok (.putfield 201, 3) := by decide +kernel
theorem dX11_endsPiece_26 : decode cX11_endsPiece 26 = .ok (.aload_n 0, 1) := by decide +kernel
theorem dX11_endsPiece_27 : decode cX11_endsPiece 27 = .ok (.aload_n 0, 1) := by decide +kernel
theorem dX11_endsPiece_28 : decode cX11_endsPiece 28 = .ok (.getfield 198, 3) := by decide +kernel
theorem dX11_endsPiece_31 : decode cX11_endsPiece 31 = .ok (.iconst 1, 1) := by decide +kernel
theorem dX11_endsPiece_32 : decode cX11_endsPiece 32 = .ok (.isub, 1) := by decide +kernel
theorem dX11_endsPiece_33 : decode cX11_endsPiece 33 = .ok (.putfield 198, 3) := by decide +kernel
theorem dX11_endsPiece_36 : decode cX11_endsPiece 36 = .ok (.goto (-36), 3) := by decide +kernel
theorem dX11_endsPiece_39 : decode cX11_endsPiece 39 = .ok (.return_, 1) := by decide +kernel
theorem dX11_jumps_0 : decode cX11_jumps 0 = .ok (.aload_n 0, 1) := by decide +kernel
theorem dX11_jumps_1 : decode cX11_jumps 1 = .ok (.getfield 38, 3) := by decide +kernel
theorem dX11_jumps_4 : decode cX11_jumps 4 = .ok (.aload_n 0, 1) := by decide +kernel
theorem dX11_jumps_5 : decode cX11_jumps 5 = .ok (.getfield 201, 3) := by decide +kernel
theorem dX11_jumps_8 : decode cX11_jumps 8 = .ok (.ldc 197, 2) := by decide +kernel
theorem dX11_jumps_10 : decode cX11_jumps 10 = .ok (.iload_n 1, 1) := by decide +kernel
theorem dX11_jumps_11 : decode cX11_jumps 11 = .ok (.imul, 1) := by decide +kernel
theorem dX11_jumps_12 : decode cX11_jumps 12 = .ok (.aload_n 0, 1) := by decide +kernel
theorem dX11_jumps_13 : decode cX11_jumps 13 = .ok (.getfield 194, 3) := by decide +kernel
theorem dX11_jumps_16 : decode cX11_jumps 16 = .ok (.iadd, 1) := by decide +kernel
theorem dX11_jumps_17 : decode cX11_jumps 17 = .ok (.iastore, 1) := by decide +kernel
theorem dX11_jumps_18 : decode cX11_jumps 18 = .ok (.aload_n 0, 1) := by decide +kernel
theorem dX11_jumps_19 : decode cX11_jumps 19 = .ok (.aload_n 0, 1) := by decide +kernel
theorem dX11_jumps_20 : decode cX11_jumps 20 = .ok (.getfield 201, 3) := by decide +kernel
theorem dX11_jumps_23 : decode cX11_jumps 23 = .ok (.iconst 1, 1) := by decide +kernel
theorem dX11_jumps_24 : decode cX11_jumps 24 = .ok (.iadd, 1) := by decide +kernel
theorem dX11_jumps_25 : decode cX11_jumps 25 = .ok (.putfield 201, 3) := by decide +kernel
theorem dX11_jumps_28 : decode cX11_jumps 28 = .ok (.aload_n 0, 1) := by decide +kernel
theorem dX11_jumps_29 : decode cX11_jumps 29 = .ok (.iload_n 1, 1) := by decide +kernel
theorem dX11_jumps_30 : decode cX11_jumps 30 = .ok (.iconst 0, 1) := by decide +kernel
theorem dX11_jumps_31 : decode cX11_jumps 31 = .ok (.invokevirtual 207, 3) := by decide +kernel
theorem dX11_jumps_34 : decode cX11_jumps 34 = .ok (.aload_n 0, 1) := by decide +kernel
theorem dX11_jumps_35 : decode cX11_jumps 35 = .ok (.aload_n 0, 1) := by decide +kernel
theorem dX11_jumps_36 : decode cX11_jumps 36 = .ok (.getfield 171, 3) := by decide +kernel
theorem dX11_jumps_39 : decode cX11_jumps 39 = .ok (.iconst 1, 1) := by decide +kernel
theorem dX11_jumps_40 : decode cX11_jumps 40 = .ok (.iadd, 1) := by decide +kernel
theorem dX11_jumps_41 : decode cX11_jumps 41 = .ok (.putfield 171, 3) := by decide +kernel
theorem dX11_jumps_44 : decode cX11_jumps 44 = .ok (.return_, 1) := by decide +kernel
theorem dX11_lands_0 : decode cX11_lands 0 = .ok (.aload_n 0, 1) := by decide +kernel
theorem dX11_lands_1 : decode cX11_lands 1 = .ok (.invokevirtual 204, 3) := by decide +kernel
theorem dX11_lands_4 : decode cX11_lands 4 = .ok (.bipush 11, 2) := by decide +kernel
theorem dX11_lands_6 : decode cX11_lands 6 = .ok (.if_icmp .eq 16, 3) := by decide +kernel
theorem dX11_lands_9 : decode cX11_lands 9 = .ok (.iload_n 1, 1) := by decide +kernel
theorem dX11_lands_10 : decode cX11_lands 10 = .ok (.ifCond .eq 63, 3) := by decide +kernel
theorem dX11_lands_13 : decode cX11_lands 13 = .ok (.aload_n 0, 1) := by decide +kernel
theorem dX11_lands_14 : decode cX11_lands 14 = .ok (.invokevirtual 204, 3) := by decide +kernel
theorem dX11_lands_17 : decode cX11_lands 17 = .ok (.bipush 12, 2) := by decide +kernel
theorem dX11_lands_19 : decode cX11_lands 19 = .ok (.if_icmp .ne 54, 3) := by decide +kernel
theorem dX11_lands_22 : decode cX11_lands 22 = .ok (.aload_n 0, 1) := by decide +kernel
theorem dX11_lands_23 : decode cX11_lands 23 = .ok (.getfield 38, 3) := by decide +kernel
theorem dX11_lands_26 : decode cX11_lands 26 = .ok (.aload_n 0, 1) := by decide +kernel
theorem dX11_lands_27 : decode cX11_lands 27 = .ok (.getfield 201, 3) := by decide +kernel
theorem dX11_lands_30 : decode cX11_lands 30 = .ok (.iconst 1, 1) := by decide +kernel
theorem dX11_lands_31 : decode cX11_lands 31 = .ok (.isub, 1) := by decide +kernel
theorem dX11_lands_32 : decode cX11_lands 32 = .ok (.iaload, 1) := by decide +kernel
theorem dX11_lands_33 : decode cX11_lands 33 = .ok (.ldc 197, 2) := by decide +kernel
theorem dX11_lands_35 : decode cX11_lands 35 = .ok (.irem, 1) := by decide +kernel
theorem dX11_lands_36 : decode cX11_lands 36 = .ok (.istore_n 2, 1) := by decide +kernel
theorem dX11_lands_37 : decode cX11_lands 37 = .ok (.aload_n 0, 1) := by decide +kernel
theorem dX11_lands_38 : decode cX11_lands 38 = .ok (.getfield 35, 3) := by decide +kernel
theorem dX11_lands_41 : decode cX11_lands 41 = .ok (.iload_n 2, 1) := by decide +kernel
theorem dX11_lands_42 : decode cX11_lands 42 = .ok (.ldc 197, 2) := by decide +kernel
theorem dX11_lands_44 : decode cX11_lands 44 = .ok (.aload_n 0, 1) := by decide +kernel
theorem dX11_lands_45 : decode cX11_lands 45 = .ok (.getfield 35, 3) := by decide +kernel
theorem dX11_lands_48 : decode cX11_lands 48 = .ok (.iload_n 2, 1) := by decide +kernel
theorem dX11_lands_49 : decode cX11_lands 49 = .ok (.iaload, 1) := by decide +kernel
theorem dX11_lands_50 : decode cX11_lands 50 = .ok (.ldc 197, 2) := by decide +kernel
theorem dX11_lands_52 : decode cX11_lands 52 = .ok (.idiv, 1) := by decide +kernel
theorem dX11_lands_53 : decode cX11_lands 53 = .ok (.imul, 1) := by decide +kernel
theorem dX11_lands_54 : decode cX11_lands 54 = .ok (.aload_n 0, 1) := by decide +kernel
theorem dX11_lands_55 : decode cX11_lands 55 = .ok (.getfield 194, 3) := by decide +kernel
theorem dX11_lands_58 : decode cX11_lands 58 = .ok (.iadd, 1) := by decide +kernel
theorem dX11_lands_59 : decode cX11_lands 59 = .ok (.iastore, 1) := by decide +kernel
theorem dX11_lands_60 : decode cX11_lands 60 = .ok (.aload_n 0, 1) := by decide +kernel
theorem dX11_lands_61 : decode cX11_lands 61 = .ok (.aload_n 0, 1) := by decide +kernel
theorem dX11_lands_62 : decode cX11_lands 62 = .ok (.getfield 201, 3) := by decide +kernel
theorem dX11_lands_65 : decode cX11_lands 65 = .ok (.iconst 1, 1) := by decide +kernel
theorem dX11_lands_66 : decode cX11_lands 66 = .ok (.isub, 1) := by decide +kernel
theorem dX11_lands_67 : decode cX11_lands 67 = .ok (.putfield 201, 3) := by decide +kernel
theorem dX11_lands_70 : decode cX11_lands 70 = .ok (.goto (-70), 3) := by decide +kernel
theorem dX11_lands_73 : decode cX11_lands 73 = .ok (.return_, 1) := by decide +kernel
theorem dX11_readsCompared_0 : decode cX11_readsCompared 0 = .ok (.aload_n 0, 1) := by decide +kernel
theorem dX11_readsCompared_1 : decode cX11_readsCompared 1 = .ok (.invokevirtual 233, 3) := by decide +kernel
theorem dX11_readsCompared_4 : decode cX11_readsCompared 4 = .ok (.ifCond .ne 5, 3) := by decide +kernel
theorem dX11_readsCompared_7 : decode cX11_readsCompared 7 = .ok (.iconst 0, 1) := by decide +kernel
theorem dX11_readsCompared_8 : decode cX11_readsCompared 8 = .ok (.ireturn, 1) := by decide +kernel
theorem dX11_readsCompared_9 : decode cX11_readsCompared 9 = .ok (.aload_n 0, 1) := by decide +kernel
theorem dX11_readsCompared_10 : decode cX11_readsCompared 10 = .ok (.invokevirtual 177, 3) := by decide +kernel
theorem dX11_readsCompared_13 : decode cX11_readsCompared 13 = .ok (.bipush 60, 2) := by decide +kernel
theorem dX11_readsCompared_15 : decode cX11_readsCompared 15 = .ok (.if_icmp .ne 8, 3) := by decide +kernel
theorem dX11_readsCompared_18 : decode cX11_readsCompared 18 = .ok (.bipush 7, 2) := by decide +kernel
theorem dX11_readsCompared_20 : decode cX11_readsCompared 20 = .ok (.goto 32, 3) := by decide +kernel
theorem dX11_readsCompared_23 : decode cX11_readsCompared 23 = .ok (.aload_n 0, 1) := by decide +kernel
theorem dX11_readsCompared_24 : decode cX11_readsCompared 24 = .ok (.invokevirtual 177, 3) := by decide +kernel
theorem dX11_readsCompared_27 : decode cX11_readsCompared 27 = .ok (.bipush 62, 2) := by decide +kernel
theorem dX11_readsCompared_29 : decode cX11_readsCompared 29 = .ok (.if_icmp .ne 8, 3) := by decide +kernel
theorem dX11_readsCompared_32 : decode cX11_readsCompared 32 = .ok (.bipush 8, 2) := by decide +kernel
theorem dX11_readsCompared_34 : decode cX11_readsCompared 34 = .ok (.goto 18, 3) := by decide +kernel
theorem dX11_readsCompared_37 : decode cX11_readsCompared 37 = .ok (.aload_n 0, 1) := by decide +kernel
theorem dX11_readsCompared_38 : decode cX11_readsCompared 38 = .ok (.invokevirtual 177, 3) := by decide +kernel
theorem dX11_readsCompared_41 : decode cX11_readsCompared 41 = .ok (.bipush 61, 2) := by decide +kernel
theorem dX11_readsCompared_43 : decode cX11_readsCompared 43 = .ok (.if_icmp .ne 8, 3) := by decide +kernel
theorem dX11_readsCompared_46 : decode cX11_readsCompared 46 = .ok (.bipush 9, 2) := by decide +kernel
theorem dX11_readsCompared_48 : decode cX11_readsCompared 48 = .ok (.goto 4, 3) := by decide +kernel
theorem dX11_readsCompared_51 : decode cX11_readsCompared 51 = .ok (.iconst (-1), 1) := by decide +kernel
theorem dX11_readsCompared_52 : decode cX11_readsCompared 52 = .ok (.istore_n 1, 1) := by decide +kernel
theorem dX11_readsCompared_53 : decode cX11_readsCompared 53 = .ok (.iload_n 1, 1) := by decide +kernel
theorem dX11_readsCompared_54 : decode cX11_readsCompared 54 = .ok (.iconst (-1), 1) := by decide +kernel
theorem dX11_readsCompared_55 : decode cX11_readsCompared 55 = .ok (.if_icmp .ne 13, 3) := by decide +kernel
theorem dX11_readsCompared_58 : decode cX11_readsCompared 58 = .ok (.aload_n 0, 1) := by decide +kernel
theorem dX11_readsCompared_59 : decode cX11_readsCompared 59 = .ok (.iconst 1, 1) := by decide +kernel
theorem dX11_readsCompared_60 : decode cX11_readsCompared 60 = .ok (.aload_n 0, 1) := by decide +kernel
theorem dX11_readsCompared_61 : decode cX11_readsCompared 61 = .ok (.getfield 171, 3) := by decide +kernel
theorem dX11_readsCompared_64 : decode cX11_readsCompared 64 = .ok (.invokevirtual 184, 3) := by decide +kernel
theorem dX11_readsCompared_67 : decode cX11_readsCompared 67 = .ok (.ireturn, 1) := by decide +kernel
theorem dX11_readsCompared_68 : decode cX11_readsCompared 68 = .ok (.aload_n 0, 1) := by decide +kernel
theorem dX11_readsCompared_69 : decode cX11_readsCompared 69 = .ok (.aload_n 0, 1) := by decide +kernel
theorem dX11_readsCompared_70 : decode cX11_readsCompared 70 = .ok (.getfield 171, 3) := by decide +kernel
theorem dX11_readsCompared_73 : decode cX11_readsCompared 73 = .ok (.iconst 1, 1) := by decide +kernel
theorem dX11_readsCompared_74 : decode cX11_readsCompared 74 = .ok (.iadd, 1) := by decide +kernel
theorem dX11_readsCompared_75 : decode cX11_readsCompared 75 = .ok (.putfield 171, 3) := by decide +kernel
theorem dX11_readsCompared_78 : decode cX11_readsCompared 78 = .ok (.aload_n 0, 1) := by decide +kernel
theorem dX11_readsCompared_79 : decode cX11_readsCompared 79 = .ok (.invokevirtual 233, 3) := by decide +kernel
theorem dX11_readsCompared_82 : decode cX11_readsCompared 82 = .ok (.ifCond .ne 5, 3) := by decide +kernel
theorem dX11_readsCompared_85 : decode cX11_readsCompared 85 = .ok (.iconst 0, 1) := by decide +kernel
theorem dX11_readsCompared_86 : decode cX11_readsCompared 86 = .ok (.ireturn, 1) := by decide +kernel
theorem dX11_readsCompared_87 : decode cX11_readsCompared 87 = .ok (.aload_n 0, 1) := by decide +kernel
theorem dX11_readsCompared_88 : decode cX11_readsCompared 88 = .ok (.iload_n 1, 1) := by decide +kernel
theorem dX11_readsCompared_89 : decode cX11_readsCompared 89 = .ok (.iconst 0, 1) := by decide +kernel
theorem dX11_readsCompared_90 : decode cX11_readsCompared 90 = .ok (.invokevirtual 207, 3) := by decide +kernel
theorem dX11_readsCompared_93 : decode cX11_readsCompared 93 = .ok (.aload_n 0, 1) := by decide +kernel
theorem dX11_readsCompared_94 : decode cX11_readsCompared 94 = .ok (.invokevirtual 236, 3) := by decide +kernel
theorem dX11_readsCompared_97 : decode cX11_readsCompared 97 = .ok (.iconst 1, 1) := by decide +kernel
theorem dX11_readsCompared_98 : decode cX11_readsCompared 98 = .ok (.ireturn, 1) := by decide +kernel

