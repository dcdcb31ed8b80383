theorem cf_X11_closesSums : xCF yX11_closesSums cX11_closesSums 2 none 1 := ⟨xq 1504 (by decide +kernel) rfl, xq 179 (by decide +kernel) rfl, by decide +kernel⟩
theorem cf_X11_hasOpenSum : xCF yX11_hasOpenSum cX11_hasOpenSum 3 (some .boolean) 1 := ⟨xq 1512 (by decide +kernel) rfl, xq 179 (by decide +kernel) rfl, by decide +kernel⟩
theorem cf_X11_readsFactor : xCF yX11_readsFactor cX11_readsFactor 2 (some .boolean) 0 := ⟨xq 1477 (by decide +kernel) rfl, xq 179 (by decide +kernel) rfl, by decide +kernel⟩
theorem cf_X11_sumSign : xCF yX11_sumSign cX11_sumSign 1 (some .int) 1 := ⟨xq 1500 (by decide +kernel) rfl, xq 179 (by decide +kernel) rfl, by decide +kernel⟩
theorem wq117 : Cond.selects yX11_readsFactor.cls yX11_readsFactor yX11_readsFactor ∈ xTB := xq 117 (by decide +kernel) rfl
theorem wq122 : Cond.selects yX11_closesSums.cls yX11_closesSums yX11_closesSums ∈ xTB := xq 122 (by decide +kernel) rfl
theorem wq124 : Cond.selects yX11_hasOpenSum.cls yX11_hasOpenSum yX11_hasOpenSum ∈ xTB := xq 124 (by decide +kernel) rfl
theorem wq1474 : Cond.methodLink "ShadowCourtModel" (220) yX11_readsFactor ∈ xTB := xq 1474 (by decide +kernel) rfl
theorem wq1476 : Cond.instanceMethod yX11_readsFactor ∈ xTB := xq 1476 (by decide +kernel) rfl
theorem wq1498 : Cond.methodLink "ShadowCourtModel" (223) yX11_sumSign ∈ xTB := xq 1498 (by decide +kernel) rfl
theorem wq1499 : Cond.static yX11_sumSign ∈ xTB := xq 1499 (by decide +kernel) rfl
theorem wq1501 : Cond.methodLink "ShadowCourtModel" (226) yX11_closesSums ∈ xTB := xq 1501 (by decide +kernel) rfl
theorem wq1503 : Cond.instanceMethod yX11_closesSums ∈ xTB := xq 1503 (by decide +kernel) rfl
theorem wq1509 : Cond.methodLink "ShadowCourtModel" (230) yX11_hasOpenSum ∈ xTB := xq 1509 (by decide +kernel) rfl
theorem wq1511 : Cond.instanceMethod yX11_hasOpenSum ∈ xTB := xq 1511 (by decide +kernel) rfl
theorem dX11_readsSum_0 : decode cX11_readsSum 0 = .ok (.aload_n 0, 1) := by decide +kernel
theorem dX11_readsSum_1 : decode cX11_readsSum 1 = .ok (.getfield 201, 3) := by decide +kernel
theorem dX11_readsSum_4 : decode cX11_readsSum 4 = .ok (.istore_n 1, 1) := by decide +kernel
theorem dX11_readsSum_5 : decode cX11_readsSum 5 = .ok (.aload_n 0, 1) := by decide +kernel
theorem dX11_readsSum_6 : decode cX11_readsSum 6 = .ok (.invokevirtual 220, 3) := by decide +kernel
theorem dX11_readsSum_9 : decode cX11_readsSum 9 = .ok (.ifCond .ne 5, 3) := by decide +kernel
theorem dX11_readsSum_12 : decode cX11_readsSum 12 = .ok (.iconst 0, 1) := by decide +kernel
theorem dX11_readsSum_13 : decode cX11_readsSum 13 = .ok (.ireturn, 1) := by decide +kernel
theorem dX11_readsSum_14 : decode cX11_readsSum 14 = .ok (.aload_n 0, 1) := by decide +kernel
theorem dX11_readsSum_15 : decode cX11_readsSum 15 = .ok (.invokevirtual 177, 3) := by decide +kernel
theorem dX11_readsSum_18 : decode cX11_readsSum 18 = .ok (.invokestatic 223, 3) := by decide +kernel
theorem dX11_readsSum_21 : decode cX11_readsSum 21 = .ok (.istore_n 2, 1) := by decide +kernel
theorem dX11_readsSum_22 : decode cX11_readsSum 22 = .ok (.iload_n 2, 1) := by decide +kernel
theorem dX11_readsSum_23 : decode cX11_readsSum 23 = .ok (.iconst (-1), 1) := by decide +kernel
theorem dX11_readsSum_24 : decode cX11_readsSum 24 = .ok (.if_icmp .eq 59, 3) := by decide +kernel
theorem dX11_readsSum_27 : decode cX11_readsSum 27 = .ok (.aload_n 0, 1) := by decide +kernel
theorem dX11_readsSum_28 : decode cX11_readsSum 28 = .ok (.iload_n 2, 1) := by decide +kernel
theorem dX11_readsSum_29 : decode cX11_readsSum 29 = .ok (.iconst 4, 1) := by decide +kernel
theorem dX11_readsSum_30 : decode cX11_readsSum 30 = .ok (.if_icmp .ge 7, 3) := by decide +kernel
theorem dX11_readsSum_33 : decode cX11_readsSum 33 = .ok (.iconst 1, 1) := by decide +kernel
theorem dX11_readsSum_34 : decode cX11_readsSum 34 = .ok (.goto 4, 3) := by decide +kernel
theorem dX11_readsSum_37 : decode cX11_readsSum 37 = .ok (.iconst 0, 1) := by decide +kernel
theorem dX11_readsSum_38 : decode cX11_readsSum 38 = .ok (.invokevirtual 226, 3) := by decide +kernel
theorem dX11_readsSum_41 : decode cX11_readsSum 41 = .ok (.aload_n 0, 1) := by decide +kernel
theorem dX11_readsSum_42 : decode cX11_readsSum 42 = .ok (.getfield 38, 3) := by decide +kernel
theorem dX11_readsSum_45 : decode cX11_readsSum 45 = .ok (.aload_n 0, 1) := by decide +kernel
theorem dX11_readsSum_46 : decode cX11_readsSum 46 = .ok (.getfield 201, 3) := by decide +kernel
theorem dX11_readsSum_49 : decode cX11_readsSum 49 = .ok (.ldc 197, 2) := by decide +kernel
theorem dX11_readsSum_51 : decode cX11_readsSum 51 = .ok (.iload_n 2, 1) := by decide +kernel
theorem dX11_readsSum_52 : decode cX11_readsSum 52 = .ok (.imul, 1) := by decide +kernel
theorem dX11_readsSum_53 : decode cX11_readsSum 53 = .ok (.iastore, 1) := by decide +kernel
theorem dX11_readsSum_54 : decode cX11_readsSum 54 = .ok (.aload_n 0, 1) := by decide +kernel
theorem dX11_readsSum_55 : decode cX11_readsSum 55 = .ok (.aload_n 0, 1) := by decide +kernel
theorem dX11_readsSum_56 : decode cX11_readsSum 56 = .ok (.getfield 201, 3) := by decide +kernel
theorem dX11_readsSum_59 : decode cX11_readsSum 59 = .ok (.iconst 1, 1) := by decide +kernel
theorem dX11_readsSum_60 : decode cX11_readsSum 60 = .ok (.iadd, 1) := by decide +kernel
theorem dX11_readsSum_61 : decode cX11_readsSum 61 = .ok (.putfield 201, 3) := by decide +kernel
theorem dX11_readsSum_64 : decode cX11_readsSum 64 = .ok (.aload_n 0, 1) := by decide +kernel
theorem dX11_readsSum_65 : decode cX11_readsSum 65 = .ok (.aload_n 0, 1) := by decide +kernel
theorem dX11_readsSum_66 : decode cX11_readsSum 66 = .ok (.getfield 171, 3) := by decide +kernel
theorem dX11_readsSum_69 : decode cX11_readsSum 69 = .ok (.iconst 1, 1) := by decide +kernel
theorem dX11_readsSum_70 : decode cX11_readsSum 70 = .ok (.iadd, 1) := by decide +kernel
theorem dX11_readsSum_71 : decode cX11_readsSum 71 = .ok (.putfield 171, 3) := by decide +kernel
theorem dX11_readsSum_74 : decode cX11_readsSum 74 = .ok (.aload_n 0, 1) := by decide +kernel
theorem dX11_readsSum_75 : decode cX11_readsSum 75 = .ok (.invokevirtual 220, 3) := by decide +kernel
theorem dX11_readsSum_78 : decode cX11_readsSum 78 = .ok (.ifCond .ne 85, 3) := by decide +kernel
theorem dX11_readsSum_81 : decode cX11_readsSum 81 = .ok (.iconst 0, 1) := by decide +kernel
theorem dX11_readsSum_82 : decode cX11_readsSum 82 = .ok (.ireturn, 1) := by decide +kernel
theorem dX11_readsSum_83 : decode cX11_readsSum 83 = .ok (.aload_n 0, 1) := by decide +kernel
theorem dX11_readsSum_84 : decode cX11_readsSum 84 = .ok (.invokevirtual 177, 3) := by decide +kernel
theorem dX11_readsSum_87 : decode cX11_readsSum 87 = .ok (.bipush 93, 2) := by decide +kernel
theorem dX11_readsSum_89 : decode cX11_readsSum 89 = .ok (.if_icmp .ne 49, 3) := by decide +kernel
theorem dX11_readsSum_92 : decode cX11_readsSum 92 = .ok (.aload_n 0, 1) := by decide +kernel
theorem dX11_readsSum_93 : decode cX11_readsSum 93 = .ok (.iload_n 1, 1) := by decide +kernel
theorem dX11_readsSum_94 : decode cX11_readsSum 94 = .ok (.invokevirtual 230, 3) := by decide +kernel
theorem dX11_readsSum_97 : decode cX11_readsSum 97 = .ok (.ifCond .eq 41, 3) := by decide +kernel
theorem dX11_readsSum_100 : decode cX11_readsSum 100 = .ok (.aload_n 0, 1) := by decide +kernel
theorem dX11_readsSum_101 : decode cX11_readsSum 101 = .ok (.iconst 1, 1) := by decide +kernel
theorem dX11_readsSum_102 : decode cX11_readsSum 102 = .ok (.invokevirtual 226, 3) := by decide +kernel
theorem dX11_readsSum_105 : decode cX11_readsSum 105 = .ok (.aload_n 0, 1) := by decide +kernel
theorem dX11_readsSum_106 : decode cX11_readsSum 106 = .ok (.aload_n 0, 1) := by decide +kernel
theorem dX11_readsSum_107 : decode cX11_readsSum 107 = .ok (.getfield 201, 3) := by decide +kernel
theorem dX11_readsSum_110 : decode cX11_readsSum 110 = .ok (.iconst 1, 1) := by decide +kernel
theorem dX11_readsSum_111 : decode cX11_readsSum 111 = .ok (.isub, 1) := by decide +kernel
theorem dX11_readsSum_112 : decode cX11_readsSum 112 = .ok (.putfield 201, 3) := by decide +kernel
theorem dX11_readsSum_115 : decode cX11_readsSum 115 = .ok (.aload_n 0, 1) := by decide +kernel
theorem dX11_readsSum_116 : decode cX11_readsSum 116 = .ok (.aload_n 0, 1) := by decide +kernel
theorem dX11_readsSum_117 : decode cX11_readsSum 117 = .ok (.getfield 198, 3) := by decide +kernel
theorem dX11_readsSum_120 : decode cX11_readsSum 120 = .ok (.iconst 1, 1) := by decide +kernel
theorem dX11_readsSum_121 : decode cX11_readsSum 121 = .ok (.isub, 1) := by decide +kernel
theorem dX11_readsSum_122 : decode cX11_readsSum 122 = .ok (.putfield 198, 3) := by decide +kernel
theorem dX11_readsSum_125 : decode cX11_readsSum 125 = .ok (.aload_n 0, 1) := by decide +kernel
theorem dX11_readsSum_126 : decode cX11_readsSum 126 = .ok (.aload_n 0, 1) := by decide +kernel
theorem dX11_readsSum_127 : decode cX11_readsSum 127 = .ok (.getfield 171, 3) := by decide +kernel
theorem dX11_readsSum_130 : decode cX11_readsSum 130 = .ok (.iconst 1, 1) := by decide +kernel
theorem dX11_readsSum_131 : decode cX11_readsSum 131 = .ok (.iadd, 1) := by decide +kernel
theorem dX11_readsSum_132 : decode cX11_readsSum 132 = .ok (.putfield 171, 3) := by decide +kernel
theorem dX11_readsSum_135 : decode cX11_readsSum 135 = .ok (.goto 28, 3) := by decide +kernel
theorem dX11_readsSum_138 : decode cX11_readsSum 138 = .ok (.aload_n 0, 1) := by decide +kernel
theorem dX11_readsSum_139 : decode cX11_readsSum 139 = .ok (.iload_n 1, 1) := by decide +kernel
theorem dX11_readsSum_140 : decode cX11_readsSum 140 = .ok (.invokevirtual 230, 3) := by decide +kernel
theorem dX11_readsSum_143 : decode cX11_readsSum 143 = .ok (.ifCond .eq 13, 3) := by decide +kernel
theorem dX11_readsSum_146 : decode cX11_readsSum 146 = .ok (.aload_n 0, 1) := by decide +kernel
theorem dX11_readsSum_147 : decode cX11_readsSum 147 = .ok (.iconst 1, 1) := by decide +kernel
theorem dX11_readsSum_148 : decode cX11_readsSum 148 = .ok (.aload_n 0, 1) := by decide +kernel
theorem dX11_readsSum_149 : decode cX11_readsSum 149 = .ok (.getfield 171, 3) := by decide +kernel
theorem dX11_readsSum_152 : decode cX11_readsSum 152 = .ok (.invokevirtual 184, 3) := by decide +kernel
theorem dX11_readsSum_155 : decode cX11_readsSum 155 = .ok (.ireturn, 1) := by decide +kernel
theorem dX11_readsSum_156 : decode cX11_readsSum 156 = .ok (.aload_n 0, 1) := by decide +kernel
theorem dX11_readsSum_157 : decode cX11_readsSum 157 = .ok (.iconst 1, 1) := by decide +kernel
theorem dX11_readsSum_158 : decode cX11_readsSum 158 = .ok (.invokevirtual 226, 3) := by decide +kernel
theorem dX11_readsSum_161 : decode cX11_readsSum 161 = .ok (.iconst 1, 1) := by decide +kernel
theorem dX11_readsSum_162 : decode cX11_readsSum 162 = .ok (.ireturn, 1) := by decide +kernel
theorem dX11_readsSum_163 : decode cX11_readsSum 163 = .ok (.goto (-149), 3) := by decide +kernel

