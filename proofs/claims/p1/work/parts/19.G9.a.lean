theorem st_X11_58 (h0 : Nat) (σ : xS) (k : Nat) (a : Int) : xobj h0 (xU σ k 58 a) k 11 = (xobj h0 σ k 11).set 58 (.int (xJ a)) := by simp [xobj, xU]
theorem ln_X11_58 (h0 : Nat) (σ : xS) (k : Nat) : 58 < (xobj h0 σ k 11).length := by simp [xobj]
theorem cf_X11_copiesWalks : xCF yX11_copiesWalks cX11_copiesWalks 5 none 4 := ⟨xq 1765 (by decide +kernel) rfl, xq 179 (by decide +kernel) rfl, by decide +kernel⟩
theorem cf_X11_lampSet : xCF yX11_lampSet cX11_lampSet 3 (some .int) 0 := ⟨xq 1785 (by decide +kernel) rfl, xq 179 (by decide +kernel) rfl, by decide +kernel⟩
theorem cf_X11_owedAll : xCF yX11_owedAll cX11_owedAll 3 (some .int) 0 := ⟨xq 1789 (by decide +kernel) rfl, xq 179 (by decide +kernel) rfl, by decide +kernel⟩
theorem wq165 : Cond.selects yX11_lampSet.cls yX11_lampSet yX11_lampSet ∈ xTB := xq 165 (by decide +kernel) rfl
theorem wq166 : Cond.selects yX11_owedAll.cls yX11_owedAll yX11_owedAll ∈ xTB := xq 166 (by decide +kernel) rfl
theorem wq1187 : Cond.fieldLink "ShadowCourtModel" (16) "ShadowCourtModel" "kept" "[I" ∈ xTB := xq 1187 (by decide +kernel) rfl
theorem wq1190 : Cond.fieldLink "ShadowCourtModel" (25) "ShadowCourtModel" "walkMany" "[I" ∈ xTB := xq 1190 (by decide +kernel) rfl
theorem wq1191 : Cond.fieldLink "ShadowCourtModel" (28) "ShadowCourtModel" "walkStep" "[B" ∈ xTB := xq 1191 (by decide +kernel) rfl
theorem wq1243 : Cond.fieldLink "ShadowCourtModel" (266) "ShadowCourtModel" "isKept" "Z" ∈ xTB := xq 1243 (by decide +kernel) rfl
theorem wq1244 : Cond.fieldLink "ShadowCourtModel" (129) "ShadowCourtModel" "keptMany" "[I" ∈ xTB := xq 1244 (by decide +kernel) rfl
theorem wq1245 : Cond.fieldLink "ShadowCourtModel" (132) "ShadowCourtModel" "keptStep" "[B" ∈ xTB := xq 1245 (by decide +kernel) rfl
theorem wq1758 : Cond.constant "ShadowCourtModel" (452) (65535) ∈ xTB := xq 1758 (by decide +kernel) rfl
theorem wq1763 : Cond.methodLink "ShadowCourtModel" (453) yX11_copiesWalks ∈ xTB := xq 1763 (by decide +kernel) rfl
theorem wq1764 : Cond.static yX11_copiesWalks ∈ xTB := xq 1764 (by decide +kernel) rfl
theorem wq1782 : Cond.methodLink "ShadowCourtModel" (460) yX11_lampSet ∈ xTB := xq 1782 (by decide +kernel) rfl
theorem wq1784 : Cond.instanceMethod yX11_lampSet ∈ xTB := xq 1784 (by decide +kernel) rfl
theorem wq1786 : Cond.methodLink "ShadowCourtModel" (463) yX11_owedAll ∈ xTB := xq 1786 (by decide +kernel) rfl
theorem wq1788 : Cond.instanceMethod yX11_owedAll ∈ xTB := xq 1788 (by decide +kernel) rfl
theorem dX11_check_0 : decode cX11_check 0 = .ok (.iload_n 1, 1) := by decide +kernel
theorem dX11_check_1 : decode cX11_check 1 = .ok (.iconst 0, 1) := by decide +kernel
theorem dX11_check_2 : decode cX11_check 2 = .ok (.bipush 10, 2) := by decide +kernel
theorem dX11_check_4 : decode cX11_check 4 = .ok (.invokestatic 150, 3) := by decide +kernel
theorem dX11_check_7 : decode cX11_check 7 = .ok (.ifCond .eq 13, 3) := by decide +kernel
theorem dX11_check_10 : decode cX11_check 10 = .ok (.iload_n 1, 1) := by decide +kernel
theorem dX11_check_11 : decode cX11_check 11 = .ok (.aload_n 0, 1) := by decide +kernel
theorem dX11_check_12 : decode cX11_check 12 = .ok (.getfield 164, 3) := by decide +kernel
theorem dX11_check_15 : decode cX11_check 15 = .ok (.iconst 4, 1) := by decide +kernel
theorem dX11_check_16 : decode cX11_check 16 = .ok (.idiv, 1) := by decide +kernel
theorem dX11_check_17 : decode cX11_check 17 = .ok (.if_icmp .le 6, 3) := by decide +kernel
theorem dX11_check_20 : decode cX11_check 20 = .ok (.bipush (-2), 2) := by decide +kernel
theorem dX11_check_22 : decode cX11_check 22 = .ok (.ireturn, 1) := by decide +kernel
theorem dX11_check_23 : decode cX11_check 23 = .ok (.aload_n 0, 1) := by decide +kernel
theorem dX11_check_24 : decode cX11_check 24 = .ok (.iconst 0, 1) := by decide +kernel
theorem dX11_check_25 : decode cX11_check 25 = .ok (.putfield 164, 3) := by decide +kernel
theorem dX11_check_28 : decode cX11_check 28 = .ok (.iconst 0, 1) := by decide +kernel
theorem dX11_check_29 : decode cX11_check 29 = .ok (.istore_n 2, 1) := by decide +kernel
theorem dX11_check_30 : decode cX11_check 30 = .ok (.iload_n 2, 1) := by decide +kernel
theorem dX11_check_31 : decode cX11_check 31 = .ok (.iload_n 1, 1) := by decide +kernel
theorem dX11_check_32 : decode cX11_check 32 = .ok (.if_icmp .ge 40, 3) := by decide +kernel
theorem dX11_check_35 : decode cX11_check 35 = .ok (.aload_n 0, 1) := by decide +kernel
theorem dX11_check_36 : decode cX11_check 36 = .ok (.iload_n 2, 1) := by decide +kernel
theorem dX11_check_37 : decode cX11_check 37 = .ok (.invokevirtual 457, 3) := by decide +kernel
theorem dX11_check_40 : decode cX11_check 40 = .ok (.aload_n 0, 1) := by decide +kernel
theorem dX11_check_41 : decode cX11_check 41 = .ok (.iload_n 2, 1) := by decide +kernel
theorem dX11_check_42 : decode cX11_check 42 = .ok (.invokevirtual 146, 3) := by decide +kernel
theorem dX11_check_45 : decode cX11_check 45 = .ok (.ifCond .eq 15, 3) := by decide +kernel
theorem dX11_check_48 : decode cX11_check 48 = .ok (.aload_n 0, 1) := by decide +kernel
theorem dX11_check_49 : decode cX11_check 49 = .ok (.getfield 7, 3) := by decide +kernel
theorem dX11_check_52 : decode cX11_check 52 = .ok (.bipush 14, 2) := by decide +kernel
theorem dX11_check_54 : decode cX11_check 54 = .ok (.iload_n 2, 1) := by decide +kernel
theorem dX11_check_55 : decode cX11_check 55 = .ok (.iadd, 1) := by decide +kernel
theorem dX11_check_56 : decode cX11_check 56 = .ok (.iaload, 1) := by decide +kernel
theorem dX11_check_57 : decode cX11_check 57 = .ok (.goto 4, 3) := by decide +kernel
theorem dX11_check_60 : decode cX11_check 60 = .ok (.iconst 0, 1) := by decide +kernel
theorem dX11_check_61 : decode cX11_check 61 = .ok (.if_icmp .eq 5, 3) := by decide +kernel
theorem dX11_check_64 : decode cX11_check 64 = .ok (.iload_n 2, 1) := by decide +kernel
theorem dX11_check_65 : decode cX11_check 65 = .ok (.ireturn, 1) := by decide +kernel
theorem dX11_check_66 : decode cX11_check 66 = .ok (.iinc 2 1, 3) := by decide +kernel
theorem dX11_check_69 : decode cX11_check 69 = .ok (.goto (-39), 3) := by decide +kernel
theorem dX11_check_72 : decode cX11_check 72 = .ok (.iconst (-1), 1) := by decide +kernel
theorem dX11_check_73 : decode cX11_check 73 = .ok (.ireturn, 1) := by decide +kernel
theorem dX11_cloudy_0 : decode cX11_cloudy 0 = .ok (.iload_n 1, 1) := by decide +kernel
theorem dX11_cloudy_1 : decode cX11_cloudy 1 = .ok (.iconst 1, 1) := by decide +kernel
theorem dX11_cloudy_2 : decode cX11_cloudy 2 = .ok (.bipush 10, 2) := by decide +kernel
theorem dX11_cloudy_4 : decode cX11_cloudy 4 = .ok (.invokestatic 150, 3) := by decide +kernel
theorem dX11_cloudy_7 : decode cX11_cloudy 7 = .ok (.ifCond .eq 30, 3) := by decide +kernel
theorem dX11_cloudy_10 : decode cX11_cloudy 10 = .ok (.iload_n 2, 1) := by decide +kernel
theorem dX11_cloudy_11 : decode cX11_cloudy 11 = .ok (.iconst 0, 1) := by decide +kernel
theorem dX11_cloudy_12 : decode cX11_cloudy 12 = .ok (.bipush 90, 2) := by decide +kernel
theorem dX11_cloudy_14 : decode cX11_cloudy 14 = .ok (.invokestatic 150, 3) := by decide +kernel
theorem dX11_cloudy_17 : decode cX11_cloudy 17 = .ok (.ifCond .eq 20, 3) := by decide +kernel
theorem dX11_cloudy_20 : decode cX11_cloudy 20 = .ok (.iload_n 3, 1) := by decide +kernel
theorem dX11_cloudy_21 : decode cX11_cloudy 21 = .ok (.iconst 0, 1) := by decide +kernel
theorem dX11_cloudy_22 : decode cX11_cloudy 22 = .ok (.iconst 2, 1) := by decide +kernel
theorem dX11_cloudy_23 : decode cX11_cloudy 23 = .ok (.invokestatic 150, 3) := by decide +kernel
theorem dX11_cloudy_26 : decode cX11_cloudy 26 = .ok (.ifCond .eq 11, 3) := by decide +kernel
theorem dX11_cloudy_29 : decode cX11_cloudy 29 = .ok (.iload_n 1, 1) := by decide +kernel
theorem dX11_cloudy_30 : decode cX11_cloudy 30 = .ok (.aload_n 0, 1) := by decide +kernel
theorem dX11_cloudy_31 : decode cX11_cloudy 31 = .ok (.getfield 164, 3) := by decide +kernel
theorem dX11_cloudy_34 : decode cX11_cloudy 34 = .ok (.if_icmp .le 5, 3) := by decide +kernel
theorem dX11_cloudy_37 : decode cX11_cloudy 37 = .ok (.iconst (-1), 1) := by decide +kernel
theorem dX11_cloudy_38 : decode cX11_cloudy 38 = .ok (.ireturn, 1) := by decide +kernel
theorem dX11_cloudy_39 : decode cX11_cloudy 39 = .ok (.aload_n 0, 1) := by decide +kernel
theorem dX11_cloudy_40 : decode cX11_cloudy 40 = .ok (.iconst 0, 1) := by decide +kernel
theorem dX11_cloudy_41 : decode cX11_cloudy 41 = .ok (.putfield 164, 3) := by decide +kernel
theorem dX11_cloudy_44 : decode cX11_cloudy 44 = .ok (.iconst 0, 1) := by decide +kernel
theorem dX11_cloudy_45 : decode cX11_cloudy 45 = .ok (.istore 4, 2) := by decide +kernel
theorem dX11_cloudy_47 : decode cX11_cloudy 47 = .ok (.iload 4, 2) := by decide +kernel
theorem dX11_cloudy_49 : decode cX11_cloudy 49 = .ok (.iload_n 1, 1) := by decide +kernel
theorem dX11_cloudy_50 : decode cX11_cloudy 50 = .ok (.if_icmp .ge 28, 3) := by decide +kernel
theorem dX11_cloudy_53 : decode cX11_cloudy 53 = .ok (.aload_n 0, 1) := by decide +kernel
theorem dX11_cloudy_54 : decode cX11_cloudy 54 = .ok (.getfield 32, 3) := by decide +kernel
theorem dX11_cloudy_57 : decode cX11_cloudy 57 = .ok (.iload 4, 2) := by decide +kernel
theorem dX11_cloudy_59 : decode cX11_cloudy 59 = .ok (.baload, 1) := by decide +kernel
theorem dX11_cloudy_60 : decode cX11_cloudy 60 = .ok (.iconst 1, 1) := by decide +kernel
theorem dX11_cloudy_61 : decode cX11_cloudy 61 = .ok (.bipush 9, 2) := by decide +kernel
theorem dX11_cloudy_63 : decode cX11_cloudy 63 = .ok (.invokestatic 150, 3) := by decide +kernel
theorem dX11_cloudy_66 : decode cX11_cloudy 66 = .ok (.ifCond .ne 6, 3) := by decide +kernel
theorem dX11_cloudy_69 : decode cX11_cloudy 69 = .ok (.bipush (-3), 2) := by decide +kernel
theorem dX11_cloudy_71 : decode cX11_cloudy 71 = .ok (.ireturn, 1) := by decide +kernel
theorem dX11_cloudy_72 : decode cX11_cloudy 72 = .ok (.iinc 4 1, 3) := by decide +kernel
theorem dX11_cloudy_75 : decode cX11_cloudy 75 = .ok (.goto (-28), 3) := by decide +kernel
theorem dX11_cloudy_78 : decode cX11_cloudy 78 = .ok (.iconst 0, 1) := by decide +kernel
theorem dX11_cloudy_79 : decode cX11_cloudy 79 = .ok (.istore 4, 2) := by decide +kernel
theorem dX11_cloudy_81 : decode cX11_cloudy 81 = .ok (.bipush (-2), 2) := by decide +kernel
theorem dX11_cloudy_83 : decode cX11_cloudy 83 = .ok (.istore 5, 2) := by decide +kernel
theorem dX11_cloudy_85 : decode cX11_cloudy 85 = .ok (.sipush 1023, 3) := by decide +kernel
theorem dX11_cloudy_88 : decode cX11_cloudy 88 = .ok (.istore 6, 2) := by decide +kernel
theorem dX11_cloudy_90 : decode cX11_cloudy 90 = .ok (.iconst 0, 1) := by decide +kernel
theorem dX11_cloudy_91 : decode cX11_cloudy 91 = .ok (.istore 7, 2) := by decide +kernel
theorem dX11_cloudy_93 : decode cX11_cloudy 93 = .ok (.iload 7, 2) := by decide +kernel
theorem dX11_cloudy_95 : decode cX11_cloudy 95 = .ok (.iconst 1, 1) := by decide +kernel
theorem dX11_cloudy_96 : decode cX11_cloudy 96 = .ok (.iload_n 1, 1) := by decide +kernel
theorem dX11_cloudy_97 : decode cX11_cloudy 97 = .ok (.ishl, 1) := by decide +kernel
theorem dX11_cloudy_98 : decode cX11_cloudy 98 = .ok (.if_icmp .ge 89, 3) := by decide +kernel
theorem dX11_cloudy_101 : decode cX11_cloudy 101 = .ok (.iconst 0, 1) := by decide +kernel
theorem dX11_cloudy_102 : decode cX11_cloudy 102 = .ok (.istore 8, 2) := by decide +kernel
theorem dX11_cloudy_104 : decode cX11_cloudy 104 = .ok (.iconst 0, 1) := by decide +kernel
theorem dX11_cloudy_105 : decode cX11_cloudy 105 = .ok (.istore 9, 2) := by decide +kernel
theorem dX11_cloudy_107 : decode cX11_cloudy 107 = .ok (.iload 9, 2) := by decide +kernel
theorem dX11_cloudy_109 : decode cX11_cloudy 109 = .ok (.iload_n 1, 1) := by decide +kernel
theorem dX11_cloudy_110 : decode cX11_cloudy 110 = .ok (.if_icmp .ge 35, 3) := by decide +kernel
theorem dX11_cloudy_113 : decode cX11_cloudy 113 = .ok (.iload 8, 2) := by decide +kernel
theorem dX11_cloudy_115 : decode cX11_cloudy 115 = .ok (.iload 7, 2) := by decide +kernel
theorem dX11_cloudy_117 : decode cX11_cloudy 117 = .ok (.iload 9, 2) := by decide +kernel
theorem dX11_cloudy_119 : decode cX11_cloudy 119 = .ok (.invokestatic 143, 3) := by decide +kernel
theorem dX11_cloudy_122 : decode cX11_cloudy 122 = .ok (.ifCond .eq 7, 3) := by decide +kernel
theorem dX11_cloudy_125 : decode cX11_cloudy 125 = .ok (.iconst 0, 1) := by decide +kernel
theorem dX11_cloudy_126 : decode cX11_cloudy 126 = .ok (.goto 10, 3) := by decide +kernel
theorem dX11_cloudy_129 : decode cX11_cloudy 129 = .ok (.aload_n 0, 1) := by decide +kernel
theorem dX11_cloudy_130 : decode cX11_cloudy 130 = .ok (.getfield 32, 3) := by decide +kernel
theorem dX11_cloudy_133 : decode cX11_cloudy 133 = .ok (.iload 9, 2) := by decide +kernel
theorem dX11_cloudy_135 : decode cX11_cloudy 135 = .ok (.baload, 1) := by decide +kernel
theorem dX11_cloudy_136 : decode cX11_cloudy 136 = .ok (.iadd, 1) := by decide +kernel
theorem dX11_cloudy_137 : decode cX11_cloudy 137 = .ok (.istore 8, 2) := by decide +kernel
theorem dX11_cloudy_139 : decode cX11_cloudy 139 = .ok (.iinc 9 1, 3) := by decide +kernel
theorem dX11_cloudy_142 : decode cX11_cloudy 142 = .ok (.goto (-35), 3) := by decide +kernel
theorem dX11_cloudy_145 : decode cX11_cloudy 145 = .ok (.iload 8, 2) := by decide +kernel
theorem dX11_cloudy_147 : decode cX11_cloudy 147 = .ok (.iload_n 2, 1) := by decide +kernel
theorem dX11_cloudy_148 : decode cX11_cloudy 148 = .ok (.if_icmp .eq 6, 3) := by decide +kernel
theorem dX11_cloudy_151 : decode cX11_cloudy 151 = .ok (.goto 30, 3) := by decide +kernel
theorem dX11_cloudy_154 : decode cX11_cloudy 154 = .ok (.iload 4, 2) := by decide +kernel
theorem dX11_cloudy_156 : decode cX11_cloudy 156 = .ok (.ifCond .ne 8, 3) := by decide +kernel
theorem dX11_cloudy_159 : decode cX11_cloudy 159 = .ok (.iload 7, 2) := by decide +kernel
theorem dX11_cloudy_161 : decode cX11_cloudy 161 = .ok (.goto 5, 3) := by decide +kernel
theorem dX11_cloudy_164 : decode cX11_cloudy 164 = .ok (.iload 5, 2) := by decide +kernel
theorem dX11_cloudy_166 : decode cX11_cloudy 166 = .ok (.istore 5, 2) := by decide +kernel
theorem dX11_cloudy_168 : decode cX11_cloudy 168 = .ok (.iload 4, 2) := by decide +kernel
theorem dX11_cloudy_170 : decode cX11_cloudy 170 = .ok (.iconst 1, 1) := by decide +kernel
theorem dX11_cloudy_171 : decode cX11_cloudy 171 = .ok (.iadd, 1) := by decide +kernel
theorem dX11_cloudy_172 : decode cX11_cloudy 172 = .ok (.istore 4, 2) := by decide +kernel
theorem dX11_cloudy_174 : decode cX11_cloudy 174 = .ok (.iload 6, 2) := by decide +kernel
theorem dX11_cloudy_176 : decode cX11_cloudy 176 = .ok (.iload 7, 2) := by decide +kernel
theorem dX11_cloudy_178 : decode cX11_cloudy 178 = .ok (.iand, 1) := by decide +kernel
theorem dX11_cloudy_179 : decode cX11_cloudy 179 = .ok (.istore 6, 2) := by decide +kernel
theorem dX11_cloudy_181 : decode cX11_cloudy 181 = .ok (.iinc 7 1, 3) := by decide +kernel
theorem dX11_cloudy_184 : decode cX11_cloudy 184 = .ok (.goto (-91), 3) := by decide +kernel
theorem dX11_cloudy_187 : decode cX11_cloudy 187 = .ok (.iload_n 3, 1) := by decide +kernel
theorem dX11_cloudy_188 : decode cX11_cloudy 188 = .ok (.ifCond .ne 8, 3) := by decide +kernel
theorem dX11_cloudy_191 : decode cX11_cloudy 191 = .ok (.iload 4, 2) := by decide +kernel
theorem dX11_cloudy_193 : decode cX11_cloudy 193 = .ok (.goto 20, 3) := by decide +kernel
theorem dX11_cloudy_196 : decode cX11_cloudy 196 = .ok (.iload_n 3, 1) := by decide +kernel
theorem dX11_cloudy_197 : decode cX11_cloudy 197 = .ok (.iconst 1, 1) := by decide +kernel
theorem dX11_cloudy_198 : decode cX11_cloudy 198 = .ok (.if_icmp .eq 8, 3) := by decide +kernel
theorem dX11_cloudy_201 : decode cX11_cloudy 201 = .ok (.iload 4, 2) := by decide +kernel
theorem dX11_cloudy_203 : decode cX11_cloudy 203 = .ok (.ifCond .ne 8, 3) := by decide +kernel
theorem dX11_cloudy_206 : decode cX11_cloudy 206 = .ok (.iload 5, 2) := by decide +kernel
theorem dX11_cloudy_208 : decode cX11_cloudy 208 = .ok (.goto 5, 3) := by decide +kernel
theorem dX11_cloudy_211 : decode cX11_cloudy 211 = .ok (.iload 6, 2) := by decide +kernel
theorem dX11_cloudy_213 : decode cX11_cloudy 213 = .ok (.ireturn, 1) := by decide +kernel
theorem dX11_count_0 : decode cX11_count 0 = .ok (.iload_n 1, 1) := by decide +kernel
theorem dX11_count_1 : decode cX11_count 1 = .ok (.tableswitch 123 0 8 #[51, 59, 67, 75, 80, 85, 90, 95, 103], 51) := by decide +kernel
theorem dX11_count_52 : decode cX11_count 52 = .ok (.aload_n 0, 1) := by decide +kernel
theorem dX11_count_53 : decode cX11_count 53 = .ok (.getfield 7, 3) := by decide +kernel
theorem dX11_count_56 : decode cX11_count 56 = .ok (.bipush 37, 2) := by decide +kernel
theorem dX11_count_58 : decode cX11_count 58 = .ok (.iaload, 1) := by decide +kernel
theorem dX11_count_59 : decode cX11_count 59 = .ok (.ireturn, 1) := by decide +kernel
theorem dX11_count_60 : decode cX11_count 60 = .ok (.aload_n 0, 1) := by decide +kernel
theorem dX11_count_61 : decode cX11_count 61 = .ok (.getfield 7, 3) := by decide +kernel
theorem dX11_count_64 : decode cX11_count 64 = .ok (.bipush 34, 2) := by decide +kernel
theorem dX11_count_66 : decode cX11_count 66 = .ok (.iaload, 1) := by decide +kernel
theorem dX11_count_67 : decode cX11_count 67 = .ok (.ireturn, 1) := by decide +kernel
theorem dX11_count_68 : decode cX11_count 68 = .ok (.aload_n 0, 1) := by decide +kernel
theorem dX11_count_69 : decode cX11_count 69 = .ok (.getfield 7, 3) := by decide +kernel
theorem dX11_count_72 : decode cX11_count 72 = .ok (.bipush 35, 2) := by decide +kernel
theorem dX11_count_74 : decode cX11_count 74 = .ok (.iaload, 1) := by decide +kernel
theorem dX11_count_75 : decode cX11_count 75 = .ok (.ireturn, 1) := by decide +kernel
theorem dX11_count_76 : decode cX11_count 76 = .ok (.aload_n 0, 1) := by decide +kernel
theorem dX11_count_77 : decode cX11_count 77 = .ok (.invokevirtual 460, 3) := by decide +kernel
theorem dX11_count_80 : decode cX11_count 80 = .ok (.ireturn, 1) := by decide +kernel
theorem dX11_count_81 : decode cX11_count 81 = .ok (.aload_n 0, 1) := by decide +kernel
theorem dX11_count_82 : decode cX11_count 82 = .ok (.invokevirtual 463, 3) := by decide +kernel
theorem dX11_count_85 : decode cX11_count 85 = .ok (.ireturn, 1) := by decide +kernel
theorem dX11_count_86 : decode cX11_count 86 = .ok (.aload_n 0, 1) := by decide +kernel
theorem dX11_count_87 : decode cX11_count 87 = .ok (.getfield 306, 3) := by decide +kernel
theorem dX11_count_90 : decode cX11_count 90 = .ok (.ireturn, 1) := by decide +kernel
theorem dX11_count_91 : decode cX11_count 91 = .ok (.aload_n 0, 1) := by decide +kernel
theorem dX11_count_92 : decode cX11_count 92 = .ok (.getfield 164, 3) := by decide +kernel
theorem dX11_count_95 : decode cX11_count 95 = .ok (.ireturn, 1) := by decide +kernel
theorem dX11_count_96 : decode cX11_count 96 = .ok (.aload_n 0, 1) := by decide +kernel
theorem dX11_count_97 : decode cX11_count 97 = .ok (.getfield 7, 3) := by decide +kernel
theorem dX11_count_100 : decode cX11_count 100 = .ok (.bipush 38, 2) := by decide +kernel
theorem dX11_count_102 : decode cX11_count 102 = .ok (.iaload, 1) := by decide +kernel
theorem dX11_count_103 : decode cX11_count 103 = .ok (.ireturn, 1) := by decide +kernel
theorem dX11_count_104 : decode cX11_count 104 = .ok (.aload_n 0, 1) := by decide +kernel
theorem dX11_count_105 : decode cX11_count 105 = .ok (.aload_n 0, 1) := by decide +kernel
theorem dX11_count_106 : decode cX11_count 106 = .ok (.getfield 7, 3) := by decide +kernel
theorem dX11_count_109 : decode cX11_count 109 = .ok (.bipush 37, 2) := by decide +kernel
theorem dX11_count_111 : decode cX11_count 111 = .ok (.iaload, 1) := by decide +kernel
theorem dX11_count_112 : decode cX11_count 112 = .ok (.invokevirtual 339, 3) := by decide +kernel
theorem dX11_count_115 : decode cX11_count 115 = .ok (.ifCond .eq 7, 3) := by decide +kernel
theorem dX11_count_118 : decode cX11_count 118 = .ok (.iconst 1, 1) := by decide +kernel
theorem dX11_count_119 : decode cX11_count 119 = .ok (.goto 4, 3) := by decide +kernel
theorem dX11_count_122 : decode cX11_count 122 = .ok (.iconst 0, 1) := by decide +kernel
theorem dX11_count_123 : decode cX11_count 123 = .ok (.ireturn, 1) := by decide +kernel
theorem dX11_count_124 : decode cX11_count 124 = .ok (.iload_n 1, 1) := by decide +kernel
theorem dX11_count_125 : decode cX11_count 125 = .ok (.bipush 10, 2) := by decide +kernel
theorem dX11_count_127 : decode cX11_count 127 = .ok (.bipush 11, 2) := by decide +kernel
theorem dX11_count_129 : decode cX11_count 129 = .ok (.invokestatic 150, 3) := by decide +kernel
theorem dX11_count_132 : decode cX11_count 132 = .ok (.ifCond .eq 26, 3) := by decide +kernel
theorem dX11_count_135 : decode cX11_count 135 = .ok (.aload_n 0, 1) := by decide +kernel
theorem dX11_count_136 : decode cX11_count 136 = .ok (.iload_n 1, 1) := by decide +kernel
theorem dX11_count_137 : decode cX11_count 137 = .ok (.bipush 10, 2) := by decide +kernel
theorem dX11_count_139 : decode cX11_count 139 = .ok (.isub, 1) := by decide +kernel
theorem dX11_count_140 : decode cX11_count 140 = .ok (.invokevirtual 260, 3) := by decide +kernel
theorem dX11_count_143 : decode cX11_count 143 = .ok (.ifCond .eq 15, 3) := by decide +kernel
theorem dX11_count_146 : decode cX11_count 146 = .ok (.aload_n 0, 1) := by decide +kernel
theorem dX11_count_147 : decode cX11_count 147 = .ok (.getfield 7, 3) := by decide +kernel
theorem dX11_count_150 : decode cX11_count 150 = .ok (.iconst 0, 1) := by decide +kernel
theorem dX11_count_151 : decode cX11_count 151 = .ok (.iload_n 1, 1) := by decide +kernel
theorem dX11_count_152 : decode cX11_count 152 = .ok (.iadd, 1) := by decide +kernel
theorem dX11_count_153 : decode cX11_count 153 = .ok (.bipush 10, 2) := by decide +kernel
theorem dX11_count_155 : decode cX11_count 155 = .ok (.isub, 1) := by decide +kernel
theorem dX11_count_156 : decode cX11_count 156 = .ok (.iaload, 1) := by decide +kernel
theorem dX11_count_157 : decode cX11_count 157 = .ok (.ireturn, 1) := by decide +kernel
theorem dX11_count_158 : decode cX11_count 158 = .ok (.iload_n 1, 1) := by decide +kernel
theorem dX11_count_159 : decode cX11_count 159 = .ok (.bipush 20, 2) := by decide +kernel
theorem dX11_count_161 : decode cX11_count 161 = .ok (.bipush 21, 2) := by decide +kernel
theorem dX11_count_163 : decode cX11_count 163 = .ok (.invokestatic 150, 3) := by decide +kernel
theorem dX11_count_166 : decode cX11_count 166 = .ok (.ifCond .eq 25, 3) := by decide +kernel
theorem dX11_count_169 : decode cX11_count 169 = .ok (.aload_n 0, 1) := by decide +kernel
theorem dX11_count_170 : decode cX11_count 170 = .ok (.getfield 25, 3) := by decide +kernel
theorem dX11_count_173 : decode cX11_count 173 = .ok (.iload_n 1, 1) := by decide +kernel
theorem dX11_count_174 : decode cX11_count 174 = .ok (.bipush 20, 2) := by decide +kernel
theorem dX11_count_176 : decode cX11_count 176 = .ok (.isub, 1) := by decide +kernel
theorem dX11_count_177 : decode cX11_count 177 = .ok (.iaload, 1) := by decide +kernel
theorem dX11_count_178 : decode cX11_count 178 = .ok (.aload_n 0, 1) := by decide +kernel
theorem dX11_count_179 : decode cX11_count 179 = .ok (.getfield 7, 3) := by decide +kernel
theorem dX11_count_182 : decode cX11_count 182 = .ok (.iconst 2, 1) := by decide +kernel
theorem dX11_count_183 : decode cX11_count 183 = .ok (.iload_n 1, 1) := by decide +kernel
theorem dX11_count_184 : decode cX11_count 184 = .ok (.iadd, 1) := by decide +kernel
theorem dX11_count_185 : decode cX11_count 185 = .ok (.bipush 20, 2) := by decide +kernel
theorem dX11_count_187 : decode cX11_count 187 = .ok (.isub, 1) := by decide +kernel
theorem dX11_count_188 : decode cX11_count 188 = .ok (.iaload, 1) := by decide +kernel
theorem dX11_count_189 : decode cX11_count 189 = .ok (.isub, 1) := by decide +kernel
theorem dX11_count_190 : decode cX11_count 190 = .ok (.ireturn, 1) := by decide +kernel
theorem dX11_count_191 : decode cX11_count 191 = .ok (.iload_n 1, 1) := by decide +kernel
theorem dX11_count_192 : decode cX11_count 192 = .ok (.bipush 30, 2) := by decide +kernel
theorem dX11_count_194 : decode cX11_count 194 = .ok (.bipush 33, 2) := by decide +kernel
theorem dX11_count_196 : decode cX11_count 196 = .ok (.invokestatic 150, 3) := by decide +kernel
theorem dX11_count_199 : decode cX11_count 199 = .ok (.ifCond .eq 13, 3) := by decide +kernel
theorem dX11_count_202 : decode cX11_count 202 = .ok (.aload_n 0, 1) := by decide +kernel
theorem dX11_count_203 : decode cX11_count 203 = .ok (.getfield 22, 3) := by decide +kernel
theorem dX11_count_206 : decode cX11_count 206 = .ok (.iload_n 1, 1) := by decide +kernel
theorem dX11_count_207 : decode cX11_count 207 = .ok (.bipush 30, 2) := by decide +kernel
theorem dX11_count_209 : decode cX11_count 209 = .ok (.isub, 1) := by decide +kernel
theorem dX11_count_210 : decode cX11_count 210 = .ok (.iaload, 1) := by decide +kernel
theorem dX11_count_211 : decode cX11_count 211 = .ok (.ireturn, 1) := by decide +kernel
theorem dX11_count_212 : decode cX11_count 212 = .ok (.iload_n 1, 1) := by decide +kernel
theorem dX11_count_213 : decode cX11_count 213 = .ok (.bipush 100, 2) := by decide +kernel
theorem dX11_count_215 : decode cX11_count 215 = .ok (.sipush 199, 3) := by decide +kernel
theorem dX11_count_218 : decode cX11_count 218 = .ok (.invokestatic 150, 3) := by decide +kernel
theorem dX11_count_221 : decode cX11_count 221 = .ok (.ifCond .eq 15, 3) := by decide +kernel
theorem dX11_count_224 : decode cX11_count 224 = .ok (.aload_n 0, 1) := by decide +kernel
theorem dX11_count_225 : decode cX11_count 225 = .ok (.getfield 19, 3) := by decide +kernel
theorem dX11_count_228 : decode cX11_count 228 = .ok (.iload_n 1, 1) := by decide +kernel
theorem dX11_count_229 : decode cX11_count 229 = .ok (.bipush 100, 2) := by decide +kernel
theorem dX11_count_231 : decode cX11_count 231 = .ok (.isub, 1) := by decide +kernel
theorem dX11_count_232 : decode cX11_count 232 = .ok (.iaload, 1) := by decide +kernel
theorem dX11_count_233 : decode cX11_count 233 = .ok (.goto 4, 3) := by decide +kernel
theorem dX11_count_236 : decode cX11_count 236 = .ok (.iconst (-1), 1) := by decide +kernel
theorem dX11_count_237 : decode cX11_count 237 = .ok (.ireturn, 1) := by decide +kernel
theorem dX11_keep_0 : decode cX11_keep 0 = .ok (.aload_n 0, 1) := by decide +kernel
theorem dX11_keep_1 : decode cX11_keep 1 = .ok (.iconst 1, 1) := by decide +kernel
theorem dX11_keep_2 : decode cX11_keep 2 = .ok (.putfield 266, 3) := by decide +kernel
theorem dX11_keep_5 : decode cX11_keep 5 = .ok (.aload_n 0, 1) := by decide +kernel
theorem dX11_keep_6 : decode cX11_keep 6 = .ok (.getfield 7, 3) := by decide +kernel
theorem dX11_keep_9 : decode cX11_keep 9 = .ok (.aload_n 0, 1) := by decide +kernel
theorem dX11_keep_10 : decode cX11_keep 10 = .ok (.getfield 16, 3) := by decide +kernel
theorem dX11_keep_13 : decode cX11_keep 13 = .ok (.invokestatic 403, 3) := by decide +kernel
theorem dX11_keep_16 : decode cX11_keep 16 = .ok (.aload_n 0, 1) := by decide +kernel
theorem dX11_keep_17 : decode cX11_keep 17 = .ok (.getfield 25, 3) := by decide +kernel
theorem dX11_keep_20 : decode cX11_keep 20 = .ok (.aload_n 0, 1) := by decide +kernel
theorem dX11_keep_21 : decode cX11_keep 21 = .ok (.getfield 28, 3) := by decide +kernel
theorem dX11_keep_24 : decode cX11_keep 24 = .ok (.aload_n 0, 1) := by decide +kernel
theorem dX11_keep_25 : decode cX11_keep 25 = .ok (.getfield 129, 3) := by decide +kernel
theorem dX11_keep_28 : decode cX11_keep 28 = .ok (.aload_n 0, 1) := by decide +kernel
theorem dX11_keep_29 : decode cX11_keep 29 = .ok (.getfield 132, 3) := by decide +kernel
theorem dX11_keep_32 : decode cX11_keep 32 = .ok (.invokestatic 453, 3) := by decide +kernel
theorem dX11_keep_35 : decode cX11_keep 35 = .ok (.aload_n 0, 1) := by decide +kernel
theorem dX11_keep_36 : decode cX11_keep 36 = .ok (.getfield 7, 3) := by decide +kernel
theorem dX11_keep_39 : decode cX11_keep 39 = .ok (.bipush 37, 2) := by decide +kernel
theorem dX11_keep_41 : decode cX11_keep 41 = .ok (.iaload, 1) := by decide +kernel
theorem dX11_keep_42 : decode cX11_keep 42 = .ok (.ireturn, 1) := by decide +kernel
theorem dX11_lampSet_0 : decode cX11_lampSet 0 = .ok (.iconst 0, 1) := by decide +kernel
theorem dX11_lampSet_1 : decode cX11_lampSet 1 = .ok (.istore_n 1, 1) := by decide +kernel
theorem dX11_lampSet_2 : decode cX11_lampSet 2 = .ok (.iconst 0, 1) := by decide +kernel
theorem dX11_lampSet_3 : decode cX11_lampSet 3 = .ok (.istore_n 2, 1) := by decide +kernel
theorem dX11_lampSet_4 : decode cX11_lampSet 4 = .ok (.iload_n 2, 1) := by decide +kernel
theorem dX11_lampSet_5 : decode cX11_lampSet 5 = .ok (.iconst 4, 1) := by decide +kernel
theorem dX11_lampSet_6 : decode cX11_lampSet 6 = .ok (.if_icmp .ge 29, 3) := by decide +kernel
theorem dX11_lampSet_9 : decode cX11_lampSet 9 = .ok (.iload_n 1, 1) := by decide +kernel
theorem dX11_lampSet_10 : decode cX11_lampSet 10 = .ok (.aload_n 0, 1) := by decide +kernel
theorem dX11_lampSet_11 : decode cX11_lampSet 11 = .ok (.getfield 22, 3) := by decide +kernel
theorem dX11_lampSet_14 : decode cX11_lampSet 14 = .ok (.iload_n 2, 1) := by decide +kernel
theorem dX11_lampSet_15 : decode cX11_lampSet 15 = .ok (.iaload, 1) := by decide +kernel
theorem dX11_lampSet_16 : decode cX11_lampSet 16 = .ok (.iconst (-1), 1) := by decide +kernel
theorem dX11_lampSet_17 : decode cX11_lampSet 17 = .ok (.if_icmp .ne 7, 3) := by decide +kernel
theorem dX11_lampSet_20 : decode cX11_lampSet 20 = .ok (.iconst 0, 1) := by decide +kernel
theorem dX11_lampSet_21 : decode cX11_lampSet 21 = .ok (.goto 6, 3) := by decide +kernel
theorem dX11_lampSet_24 : decode cX11_lampSet 24 = .ok (.iconst 1, 1) := by decide +kernel
theorem dX11_lampSet_25 : decode cX11_lampSet 25 = .ok (.iload_n 2, 1) := by decide +kernel
theorem dX11_lampSet_26 : decode cX11_lampSet 26 = .ok (.ishl, 1) := by decide +kernel
theorem dX11_lampSet_27 : decode cX11_lampSet 27 = .ok (.ior, 1) := by decide +kernel
theorem dX11_lampSet_28 : decode cX11_lampSet 28 = .ok (.istore_n 1, 1) := by decide +kernel
theorem dX11_lampSet_29 : decode cX11_lampSet 29 = .ok (.iinc 2 1, 3) := by decide +kernel
theorem dX11_lampSet_32 : decode cX11_lampSet 32 = .ok (.goto (-28), 3) := by decide +kernel
theorem dX11_lampSet_35 : decode cX11_lampSet 35 = .ok (.iload_n 1, 1) := by decide +kernel
theorem dX11_lampSet_36 : decode cX11_lampSet 36 = .ok (.ireturn, 1) := by decide +kernel
theorem dX11_law_0 : decode cX11_law 0 = .ok (.iload_n 1, 1) := by decide +kernel
theorem dX11_law_1 : decode cX11_law 1 = .ok (.iconst 1, 1) := by decide +kernel
theorem dX11_law_2 : decode cX11_law 2 = .ok (.sipush 240, 3) := by decide +kernel
theorem dX11_law_5 : decode cX11_law 5 = .ok (.invokestatic 150, 3) := by decide +kernel
theorem dX11_law_8 : decode cX11_law 8 = .ok (.ifCond .eq 11, 3) := by decide +kernel
theorem dX11_law_11 : decode cX11_law 11 = .ok (.iload_n 1, 1) := by decide +kernel
theorem dX11_law_12 : decode cX11_law 12 = .ok (.aload_n 0, 1) := by decide +kernel
theorem dX11_law_13 : decode cX11_law 13 = .ok (.getfield 164, 3) := by decide +kernel
theorem dX11_law_16 : decode cX11_law 16 = .ok (.if_icmp .le 5, 3) := by decide +kernel
theorem dX11_law_19 : decode cX11_law 19 = .ok (.iconst (-1), 1) := by decide +kernel
theorem dX11_law_20 : decode cX11_law 20 = .ok (.ireturn, 1) := by decide +kernel
theorem dX11_law_21 : decode cX11_law 21 = .ok (.aload_n 0, 1) := by decide +kernel
theorem dX11_law_22 : decode cX11_law 22 = .ok (.iconst 0, 1) := by decide +kernel
theorem dX11_law_23 : decode cX11_law 23 = .ok (.putfield 171, 3) := by decide +kernel
theorem dX11_law_26 : decode cX11_law 26 = .ok (.aload_n 0, 1) := by decide +kernel
theorem dX11_law_27 : decode cX11_law 27 = .ok (.iload_n 1, 1) := by decide +kernel
theorem dX11_law_28 : decode cX11_law 28 = .ok (.putfield 174, 3) := by decide +kernel
theorem dX11_law_31 : decode cX11_law 31 = .ok (.aload_n 0, 1) := by decide +kernel
theorem dX11_law_32 : decode cX11_law 32 = .ok (.iconst 0, 1) := by decide +kernel
theorem dX11_law_33 : decode cX11_law 33 = .ok (.putfield 194, 3) := by decide +kernel
theorem dX11_law_36 : decode cX11_law 36 = .ok (.aload_n 0, 1) := by decide +kernel
theorem dX11_law_37 : decode cX11_law 37 = .ok (.iconst 0, 1) := by decide +kernel
theorem dX11_law_38 : decode cX11_law 38 = .ok (.putfield 297, 3) := by decide +kernel
theorem dX11_law_41 : decode cX11_law 41 = .ok (.aload_n 0, 1) := by decide +kernel
theorem dX11_law_42 : decode cX11_law 42 = .ok (.invokevirtual 303, 3) := by decide +kernel
theorem dX11_law_45 : decode cX11_law 45 = .ok (.istore_n 2, 1) := by decide +kernel
theorem dX11_law_46 : decode cX11_law 46 = .ok (.iload_n 2, 1) := by decide +kernel
theorem dX11_law_47 : decode cX11_law 47 = .ok (.ifCond .eq 39, 3) := by decide +kernel
theorem dX11_law_50 : decode cX11_law 50 = .ok (.aload_n 0, 1) := by decide +kernel
theorem dX11_law_51 : decode cX11_law 51 = .ok (.getfield 171, 3) := by decide +kernel
theorem dX11_law_54 : decode cX11_law 54 = .ok (.aload_n 0, 1) := by decide +kernel
theorem dX11_law_55 : decode cX11_law 55 = .ok (.getfield 174, 3) := by decide +kernel
theorem dX11_law_58 : decode cX11_law 58 = .ok (.if_icmp .ge 28, 3) := by decide +kernel
theorem dX11_law_61 : decode cX11_law 61 = .ok (.aload_n 0, 1) := by decide +kernel
theorem dX11_law_62 : decode cX11_law 62 = .ok (.bipush 59, 2) := by decide +kernel
theorem dX11_law_64 : decode cX11_law 64 = .ok (.invokevirtual 257, 3) := by decide +kernel
theorem dX11_law_67 : decode cX11_law 67 = .ok (.ifCond .eq 14, 3) := by decide +kernel
theorem dX11_law_70 : decode cX11_law 70 = .ok (.aload_n 0, 1) := by decide +kernel
theorem dX11_law_71 : decode cX11_law 71 = .ok (.invokevirtual 303, 3) := by decide +kernel
theorem dX11_law_74 : decode cX11_law 74 = .ok (.ifCond .eq 7, 3) := by decide +kernel
theorem dX11_law_77 : decode cX11_law 77 = .ok (.iconst 1, 1) := by decide +kernel
theorem dX11_law_78 : decode cX11_law 78 = .ok (.goto 4, 3) := by decide +kernel
theorem dX11_law_81 : decode cX11_law 81 = .ok (.iconst 0, 1) := by decide +kernel
theorem dX11_law_82 : decode cX11_law 82 = .ok (.istore_n 2, 1) := by decide +kernel
theorem dX11_law_83 : decode cX11_law 83 = .ok (.goto (-37), 3) := by decide +kernel
theorem dX11_law_86 : decode cX11_law 86 = .ok (.aload_n 0, 1) := by decide +kernel
theorem dX11_law_87 : decode cX11_law 87 = .ok (.iconst 0, 1) := by decide +kernel
theorem dX11_law_88 : decode cX11_law 88 = .ok (.putfield 164, 3) := by decide +kernel
theorem dX11_law_91 : decode cX11_law 91 = .ok (.iload_n 2, 1) := by decide +kernel
theorem dX11_law_92 : decode cX11_law 92 = .ok (.ifCond .ne 8, 3) := by decide +kernel
theorem dX11_law_95 : decode cX11_law 95 = .ok (.aload_n 0, 1) := by decide +kernel
theorem dX11_law_96 : decode cX11_law 96 = .ok (.getfield 181, 3) := by decide +kernel
theorem dX11_law_99 : decode cX11_law 99 = .ok (.ireturn, 1) := by decide +kernel
theorem dX11_law_100 : decode cX11_law 100 = .ok (.aload_n 0, 1) := by decide +kernel
theorem dX11_law_101 : decode cX11_law 101 = .ok (.aload_n 0, 1) := by decide +kernel
theorem dX11_law_102 : decode cX11_law 102 = .ok (.getfield 297, 3) := by decide +kernel
theorem dX11_law_105 : decode cX11_law 105 = .ok (.putfield 306, 3) := by decide +kernel
theorem dX11_law_108 : decode cX11_law 108 = .ok (.iconst 0, 1) := by decide +kernel
theorem dX11_law_109 : decode cX11_law 109 = .ok (.istore_n 3, 1) := by decide +kernel
theorem dX11_law_110 : decode cX11_law 110 = .ok (.iload_n 3, 1) := by decide +kernel
theorem dX11_law_111 : decode cX11_law 111 = .ok (.aload_n 0, 1) := by decide +kernel
theorem dX11_law_112 : decode cX11_law 112 = .ok (.getfield 194, 3) := by decide +kernel
theorem dX11_law_115 : decode cX11_law 115 = .ok (.if_icmp .ge 21, 3) := by decide +kernel
theorem dX11_law_118 : decode cX11_law 118 = .ok (.aload_n 0, 1) := by decide +kernel
theorem dX11_law_119 : decode cX11_law 119 = .ok (.getfield 53, 3) := by decide +kernel
theorem dX11_law_122 : decode cX11_law 122 = .ok (.iload_n 3, 1) := by decide +kernel
theorem dX11_law_123 : decode cX11_law 123 = .ok (.aload_n 0, 1) := by decide +kernel
theorem dX11_law_124 : decode cX11_law 124 = .ok (.getfield 35, 3) := by decide +kernel
theorem dX11_law_127 : decode cX11_law 127 = .ok (.iload_n 3, 1) := by decide +kernel
theorem dX11_law_128 : decode cX11_law 128 = .ok (.iaload, 1) := by decide +kernel
theorem dX11_law_129 : decode cX11_law 129 = .ok (.iastore, 1) := by decide +kernel
theorem dX11_law_130 : decode cX11_law 130 = .ok (.iinc 3 1, 3) := by decide +kernel
theorem dX11_law_133 : decode cX11_law 133 = .ok (.goto (-23), 3) := by decide +kernel
theorem dX11_law_136 : decode cX11_law 136 = .ok (.iconst 0, 1) := by decide +kernel
theorem dX11_law_137 : decode cX11_law 137 = .ok (.istore_n 3, 1) := by decide +kernel
theorem dX11_law_138 : decode cX11_law 138 = .ok (.iload_n 3, 1) := by decide +kernel
theorem dX11_law_139 : decode cX11_law 139 = .ok (.aload_n 0, 1) := by decide +kernel
theorem dX11_law_140 : decode cX11_law 140 = .ok (.getfield 297, 3) := by decide +kernel
theorem dX11_law_143 : decode cX11_law 143 = .ok (.if_icmp .ge 57, 3) := by decide +kernel
theorem dX11_law_146 : decode cX11_law 146 = .ok (.aload_n 0, 1) := by decide +kernel
theorem dX11_law_147 : decode cX11_law 147 = .ok (.getfield 56, 3) := by decide +kernel
theorem dX11_law_150 : decode cX11_law 150 = .ok (.iload_n 3, 1) := by decide +kernel
theorem dX11_law_151 : decode cX11_law 151 = .ok (.aload_n 0, 1) := by decide +kernel
theorem dX11_law_152 : decode cX11_law 152 = .ok (.getfield 41, 3) := by decide +kernel
theorem dX11_law_155 : decode cX11_law 155 = .ok (.iload_n 3, 1) := by decide +kernel
theorem dX11_law_156 : decode cX11_law 156 = .ok (.iaload, 1) := by decide +kernel
theorem dX11_law_157 : decode cX11_law 157 = .ok (.iastore, 1) := by decide +kernel
theorem dX11_law_158 : decode cX11_law 158 = .ok (.aload_n 0, 1) := by decide +kernel
theorem dX11_law_159 : decode cX11_law 159 = .ok (.getfield 59, 3) := by decide +kernel
theorem dX11_law_162 : decode cX11_law 162 = .ok (.iload_n 3, 1) := by decide +kernel
theorem dX11_law_163 : decode cX11_law 163 = .ok (.aload_n 0, 1) := by decide +kernel
theorem dX11_law_164 : decode cX11_law 164 = .ok (.getfield 44, 3) := by decide +kernel
theorem dX11_law_167 : decode cX11_law 167 = .ok (.iload_n 3, 1) := by decide +kernel
theorem dX11_law_168 : decode cX11_law 168 = .ok (.iaload, 1) := by decide +kernel
theorem dX11_law_169 : decode cX11_law 169 = .ok (.iastore, 1) := by decide +kernel
theorem dX11_law_170 : decode cX11_law 170 = .ok (.aload_n 0, 1) := by decide +kernel
theorem dX11_law_171 : decode cX11_law 171 = .ok (.getfield 62, 3) := by decide +kernel
theorem dX11_law_174 : decode cX11_law 174 = .ok (.iload_n 3, 1) := by decide +kernel
theorem dX11_law_175 : decode cX11_law 175 = .ok (.aload_n 0, 1) := by decide +kernel
theorem dX11_law_176 : decode cX11_law 176 = .ok (.getfield 47, 3) := by decide +kernel
theorem dX11_law_179 : decode cX11_law 179 = .ok (.iload_n 3, 1) := by decide +kernel
theorem dX11_law_180 : decode cX11_law 180 = .ok (.iaload, 1) := by decide +kernel
theorem dX11_law_181 : decode cX11_law 181 = .ok (.iastore, 1) := by decide +kernel
theorem dX11_law_182 : decode cX11_law 182 = .ok (.aload_n 0, 1) := by decide +kernel
theorem dX11_law_183 : decode cX11_law 183 = .ok (.getfield 65, 3) := by decide +kernel
theorem dX11_law_186 : decode cX11_law 186 = .ok (.iload_n 3, 1) := by decide +kernel
theorem dX11_law_187 : decode cX11_law 187 = .ok (.aload_n 0, 1) := by decide +kernel
theorem dX11_law_188 : decode cX11_law 188 = .ok (.getfield 50, 3) := by decide +kernel
theorem dX11_law_191 : decode cX11_law 191 = .ok (.iload_n 3, 1) := by decide +kernel
theorem dX11_law_192 : decode cX11_law 192 = .ok (.iaload, 1) := by decide +kernel
theorem dX11_law_193 : decode cX11_law 193 = .ok (.iastore, 1) := by decide +kernel
theorem dX11_law_194 : decode cX11_law 194 = .ok (.iinc 3 1, 3) := by decide +kernel
theorem dX11_law_197 : decode cX11_law 197 = .ok (.goto (-59), 3) := by decide +kernel
theorem dX11_law_200 : decode cX11_law 200 = .ok (.aload_n 0, 1) := by decide +kernel
theorem dX11_law_201 : decode cX11_law 201 = .ok (.getfield 297, 3) := by decide +kernel
theorem dX11_law_204 : decode cX11_law 204 = .ok (.ireturn, 1) := by decide +kernel
theorem dX11_market_0 : decode cX11_market 0 = .ok (.iload_n 1, 1) := by decide +kernel
theorem dX11_market_1 : decode cX11_market 1 = .ok (.iconst 1, 1) := by decide +kernel
theorem dX11_market_2 : decode cX11_market 2 = .ok (.sipush 140, 3) := by decide +kernel
theorem dX11_market_5 : decode cX11_market 5 = .ok (.invokestatic 150, 3) := by decide +kernel
theorem dX11_market_8 : decode cX11_market 8 = .ok (.ifCond .eq 11, 3) := by decide +kernel
theorem dX11_market_11 : decode cX11_market 11 = .ok (.iload_n 1, 1) := by decide +kernel
theorem dX11_market_12 : decode cX11_market 12 = .ok (.aload_n 0, 1) := by decide +kernel
theorem dX11_market_13 : decode cX11_market 13 = .ok (.getfield 164, 3) := by decide +kernel
theorem dX11_market_16 : decode cX11_market 16 = .ok (.if_icmp .le 5, 3) := by decide +kernel
theorem dX11_market_19 : decode cX11_market 19 = .ok (.iconst (-1), 1) := by decide +kernel
theorem dX11_market_20 : decode cX11_market 20 = .ok (.ireturn, 1) := by decide +kernel
theorem dX11_market_21 : decode cX11_market 21 = .ok (.aload_n 0, 1) := by decide +kernel
theorem dX11_market_22 : decode cX11_market 22 = .ok (.iconst 0, 1) := by decide +kernel
theorem dX11_market_23 : decode cX11_market 23 = .ok (.putfield 171, 3) := by decide +kernel
theorem dX11_market_26 : decode cX11_market 26 = .ok (.aload_n 0, 1) := by decide +kernel
theorem dX11_market_27 : decode cX11_market 27 = .ok (.iload_n 1, 1) := by decide +kernel
theorem dX11_market_28 : decode cX11_market 28 = .ok (.putfield 174, 3) := by decide +kernel
theorem dX11_market_31 : decode cX11_market 31 = .ok (.aload_n 0, 1) := by decide +kernel
theorem dX11_market_32 : decode cX11_market 32 = .ok (.iconst 0, 1) := by decide +kernel
theorem dX11_market_33 : decode cX11_market 33 = .ok (.invokevirtual 254, 3) := by decide +kernel
theorem dX11_market_36 : decode cX11_market 36 = .ok (.istore_n 2, 1) := by decide +kernel
theorem dX11_market_37 : decode cX11_market 37 = .ok (.iconst 1, 1) := by decide +kernel
theorem dX11_market_38 : decode cX11_market 38 = .ok (.istore_n 3, 1) := by decide +kernel
theorem dX11_market_39 : decode cX11_market 39 = .ok (.iload_n 3, 1) := by decide +kernel
theorem dX11_market_40 : decode cX11_market 40 = .ok (.bipush 10, 2) := by decide +kernel
theorem dX11_market_42 : decode cX11_market 42 = .ok (.if_icmp .ge 36, 3) := by decide +kernel
theorem dX11_market_45 : decode cX11_market 45 = .ok (.iload_n 2, 1) := by decide +kernel
theorem dX11_market_46 : decode cX11_market 46 = .ok (.ifCond .eq 32, 3) := by decide +kernel
theorem dX11_market_49 : decode cX11_market 49 = .ok (.aload_n 0, 1) := by decide +kernel
theorem dX11_market_50 : decode cX11_market 50 = .ok (.bipush 47, 2) := by decide +kernel
theorem dX11_market_52 : decode cX11_market 52 = .ok (.invokevirtual 257, 3) := by decide +kernel
theorem dX11_market_55 : decode cX11_market 55 = .ok (.ifCond .eq 15, 3) := by decide +kernel
theorem dX11_market_58 : decode cX11_market 58 = .ok (.aload_n 0, 1) := by decide +kernel
theorem dX11_market_59 : decode cX11_market 59 = .ok (.iload_n 3, 1) := by decide +kernel
theorem dX11_market_60 : decode cX11_market 60 = .ok (.invokevirtual 254, 3) := by decide +kernel
theorem dX11_market_63 : decode cX11_market 63 = .ok (.ifCond .eq 7, 3) := by decide +kernel
theorem dX11_market_66 : decode cX11_market 66 = .ok (.iconst 1, 1) := by decide +kernel
theorem dX11_market_67 : decode cX11_market 67 = .ok (.goto 4, 3) := by decide +kernel
theorem dX11_market_70 : decode cX11_market 70 = .ok (.iconst 0, 1) := by decide +kernel
theorem dX11_market_71 : decode cX11_market 71 = .ok (.istore_n 2, 1) := by decide +kernel
theorem dX11_market_72 : decode cX11_market 72 = .ok (.iinc 3 1, 3) := by decide +kernel
theorem dX11_market_75 : decode cX11_market 75 = .ok (.goto (-36), 3) := by decide +kernel
theorem dX11_market_78 : decode cX11_market 78 = .ok (.iload_n 2, 1) := by decide +kernel
theorem dX11_market_79 : decode cX11_market 79 = .ok (.ifCond .eq 24, 3) := by decide +kernel
theorem dX11_market_82 : decode cX11_market 82 = .ok (.aload_n 0, 1) := by decide +kernel
theorem dX11_market_83 : decode cX11_market 83 = .ok (.getfield 171, 3) := by decide +kernel
theorem dX11_market_86 : decode cX11_market 86 = .ok (.aload_n 0, 1) := by decide +kernel
theorem dX11_market_87 : decode cX11_market 87 = .ok (.getfield 174, 3) := by decide +kernel
theorem dX11_market_90 : decode cX11_market 90 = .ok (.if_icmp .ge 13, 3) := by decide +kernel
theorem dX11_market_93 : decode cX11_market 93 = .ok (.aload_n 0, 1) := by decide +kernel
theorem dX11_market_94 : decode cX11_market 94 = .ok (.iconst 1, 1) := by decide +kernel
theorem dX11_market_95 : decode cX11_market 95 = .ok (.aload_n 0, 1) := by decide +kernel
theorem dX11_market_96 : decode cX11_market 96 = .ok (.getfield 171, 3) := by decide +kernel
theorem dX11_market_99 : decode cX11_market 99 = .ok (.invokevirtual 184, 3) := by decide +kernel
theorem dX11_market_102 : decode cX11_market 102 = .ok (.istore_n 2, 1) := by decide +kernel
theorem dX11_market_103 : decode cX11_market 103 = .ok (.aload_n 0, 1) := by decide +kernel
theorem dX11_market_104 : decode cX11_market 104 = .ok (.iconst 0, 1) := by decide +kernel
theorem dX11_market_105 : decode cX11_market 105 = .ok (.putfield 164, 3) := by decide +kernel
theorem dX11_market_108 : decode cX11_market 108 = .ok (.iload_n 2, 1) := by decide +kernel
theorem dX11_market_109 : decode cX11_market 109 = .ok (.ifCond .ne 8, 3) := by decide +kernel
theorem dX11_market_112 : decode cX11_market 112 = .ok (.aload_n 0, 1) := by decide +kernel
theorem dX11_market_113 : decode cX11_market 113 = .ok (.getfield 181, 3) := by decide +kernel
theorem dX11_market_116 : decode cX11_market 116 = .ok (.ireturn, 1) := by decide +kernel
theorem dX11_market_117 : decode cX11_market 117 = .ok (.iconst 0, 1) := by decide +kernel
theorem dX11_market_118 : decode cX11_market 118 = .ok (.istore_n 3, 1) := by decide +kernel
theorem dX11_market_119 : decode cX11_market 119 = .ok (.iconst 0, 1) := by decide +kernel
theorem dX11_market_120 : decode cX11_market 120 = .ok (.istore 4, 2) := by decide +kernel
theorem dX11_market_122 : decode cX11_market 122 = .ok (.iload 4, 2) := by decide +kernel
theorem dX11_market_124 : decode cX11_market 124 = .ok (.bipush 100, 2) := by decide +kernel
theorem dX11_market_126 : decode cX11_market 126 = .ok (.if_icmp .ge 41, 3) := by decide +kernel
theorem dX11_market_129 : decode cX11_market 129 = .ok (.aload_n 0, 1) := by decide +kernel
theorem dX11_market_130 : decode cX11_market 130 = .ok (.getfield 19, 3) := by decide +kernel
theorem dX11_market_133 : decode cX11_market 133 = .ok (.iload 4, 2) := by decide +kernel
theorem dX11_market_135 : decode cX11_market 135 = .ok (.aload_n 0, 1) := by decide +kernel
theorem dX11_market_136 : decode cX11_market 136 = .ok (.getfield 68, 3) := by decide +kernel
theorem dX11_market_139 : decode cX11_market 139 = .ok (.iload 4, 2) := by decide +kernel
theorem dX11_market_141 : decode cX11_market 141 = .ok (.iaload, 1) := by decide +kernel
theorem dX11_market_142 : decode cX11_market 142 = .ok (.iastore, 1) := by decide +kernel
theorem dX11_market_143 : decode cX11_market 143 = .ok (.iload_n 3, 1) := by decide +kernel
theorem dX11_market_144 : decode cX11_market 144 = .ok (.aload_n 0, 1) := by decide +kernel
theorem dX11_market_145 : decode cX11_market 145 = .ok (.getfield 19, 3) := by decide +kernel
theorem dX11_market_148 : decode cX11_market 148 = .ok (.iload 4, 2) := by decide +kernel
theorem dX11_market_150 : decode cX11_market 150 = .ok (.iaload, 1) := by decide +kernel
theorem dX11_market_151 : decode cX11_market 151 = .ok (.ifCond .ne 7, 3) := by decide +kernel
theorem dX11_market_154 : decode cX11_market 154 = .ok (.iconst 0, 1) := by decide +kernel
theorem dX11_market_155 : decode cX11_market 155 = .ok (.goto 4, 3) := by decide +kernel
theorem dX11_market_158 : decode cX11_market 158 = .ok (.iconst 1, 1) := by decide +kernel
theorem dX11_market_159 : decode cX11_market 159 = .ok (.iadd, 1) := by decide +kernel
theorem dX11_market_160 : decode cX11_market 160 = .ok (.istore_n 3, 1) := by decide +kernel
theorem dX11_market_161 : decode cX11_market 161 = .ok (.iinc 4 1, 3) := by decide +kernel
theorem dX11_market_164 : decode cX11_market 164 = .ok (.goto (-42), 3) := by decide +kernel
theorem dX11_market_167 : decode cX11_market 167 = .ok (.iconst 0, 1) := by decide +kernel
theorem dX11_market_168 : decode cX11_market 168 = .ok (.istore 4, 2) := by decide +kernel
theorem dX11_market_170 : decode cX11_market 170 = .ok (.iload 4, 2) := by decide +kernel
theorem dX11_market_172 : decode cX11_market 172 = .ok (.iconst 2, 1) := by decide +kernel
theorem dX11_market_173 : decode cX11_market 173 = .ok (.if_icmp .ge 55, 3) := by decide +kernel
theorem dX11_market_176 : decode cX11_market 176 = .ok (.aload_n 0, 1) := by decide +kernel
theorem dX11_market_177 : decode cX11_market 177 = .ok (.iload 4, 2) := by decide +kernel
theorem dX11_market_179 : decode cX11_market 179 = .ok (.invokevirtual 260, 3) := by decide +kernel
theorem dX11_market_182 : decode cX11_market 182 = .ok (.ifCond .eq 40, 3) := by decide +kernel
theorem dX11_market_185 : decode cX11_market 185 = .ok (.aload_n 0, 1) := by decide +kernel
theorem dX11_market_186 : decode cX11_market 186 = .ok (.aload_n 0, 1) := by decide +kernel
theorem dX11_market_187 : decode cX11_market 187 = .ok (.getfield 7, 3) := by decide +kernel
theorem dX11_market_190 : decode cX11_market 190 = .ok (.iconst 0, 1) := by decide +kernel
theorem dX11_market_191 : decode cX11_market 191 = .ok (.iload 4, 2) := by decide +kernel
theorem dX11_market_193 : decode cX11_market 193 = .ok (.iadd, 1) := by decide +kernel
theorem dX11_market_194 : decode cX11_market 194 = .ok (.iaload, 1) := by decide +kernel
theorem dX11_market_195 : decode cX11_market 195 = .ok (.invokevirtual 263, 3) := by decide +kernel
theorem dX11_market_198 : decode cX11_market 198 = .ok (.ifCond .ne 24, 3) := by decide +kernel
theorem dX11_market_201 : decode cX11_market 201 = .ok (.aload_n 0, 1) := by decide +kernel
theorem dX11_market_202 : decode cX11_market 202 = .ok (.getfield 7, 3) := by decide +kernel
theorem dX11_market_205 : decode cX11_market 205 = .ok (.bipush 34, 2) := by decide +kernel
theorem dX11_market_207 : decode cX11_market 207 = .ok (.aload_n 0, 1) := by decide +kernel
theorem dX11_market_208 : decode cX11_market 208 = .ok (.getfield 7, 3) := by decide +kernel
theorem dX11_market_211 : decode cX11_market 211 = .ok (.bipush 34, 2) := by decide +kernel
theorem dX11_market_213 : decode cX11_market 213 = .ok (.iaload, 1) := by decide +kernel
theorem dX11_market_214 : decode cX11_market 214 = .ok (.iconst 1, 1) := by decide +kernel
theorem dX11_market_215 : decode cX11_market 215 = .ok (.iload 4, 2) := by decide +kernel
theorem dX11_market_217 : decode cX11_market 217 = .ok (.ishl, 1) := by decide +kernel
theorem dX11_market_218 : decode cX11_market 218 = .ok (.iconst (-1), 1) := by decide +kernel
theorem dX11_market_219 : decode cX11_market 219 = .ok (.ixor, 1) := by decide +kernel
theorem dX11_market_220 : decode cX11_market 220 = .ok (.iand, 1) := by decide +kernel
theorem dX11_market_221 : decode cX11_market 221 = .ok (.iastore, 1) := by decide +kernel
theorem dX11_market_222 : decode cX11_market 222 = .ok (.iinc 4 1, 3) := by decide +kernel
theorem dX11_market_225 : decode cX11_market 225 = .ok (.goto (-55), 3) := by decide +kernel
theorem dX11_market_228 : decode cX11_market 228 = .ok (.iconst 0, 1) := by decide +kernel
theorem dX11_market_229 : decode cX11_market 229 = .ok (.istore 4, 2) := by decide +kernel
theorem dX11_market_231 : decode cX11_market 231 = .ok (.iload 4, 2) := by decide +kernel
theorem dX11_market_233 : decode cX11_market 233 = .ok (.bipush 10, 2) := by decide +kernel
theorem dX11_market_235 : decode cX11_market 235 = .ok (.if_icmp .ge 55, 3) := by decide +kernel
theorem dX11_market_238 : decode cX11_market 238 = .ok (.aload_n 0, 1) := by decide +kernel
theorem dX11_market_239 : decode cX11_market 239 = .ok (.iload 4, 2) := by decide +kernel
theorem dX11_market_241 : decode cX11_market 241 = .ok (.invokevirtual 146, 3) := by decide +kernel
theorem dX11_market_244 : decode cX11_market 244 = .ok (.ifCond .eq 40, 3) := by decide +kernel
theorem dX11_market_247 : decode cX11_market 247 = .ok (.aload_n 0, 1) := by decide +kernel
theorem dX11_market_248 : decode cX11_market 248 = .ok (.aload_n 0, 1) := by decide +kernel
theorem dX11_market_249 : decode cX11_market 249 = .ok (.getfield 7, 3) := by decide +kernel
theorem dX11_market_252 : decode cX11_market 252 = .ok (.iconst 4, 1) := by decide +kernel
theorem dX11_market_253 : decode cX11_market 253 = .ok (.iload 4, 2) := by decide +kernel
theorem dX11_market_255 : decode cX11_market 255 = .ok (.iadd, 1) := by decide +kernel
theorem dX11_market_256 : decode cX11_market 256 = .ok (.iaload, 1) := by decide +kernel
theorem dX11_market_257 : decode cX11_market 257 = .ok (.invokevirtual 263, 3) := by decide +kernel
theorem dX11_market_260 : decode cX11_market 260 = .ok (.ifCond .ne 24, 3) := by decide +kernel
theorem dX11_market_263 : decode cX11_market 263 = .ok (.aload_n 0, 1) := by decide +kernel
theorem dX11_market_264 : decode cX11_market 264 = .ok (.getfield 7, 3) := by decide +kernel
theorem dX11_market_267 : decode cX11_market 267 = .ok (.bipush 35, 2) := by decide +kernel
theorem dX11_market_269 : decode cX11_market 269 = .ok (.aload_n 0, 1) := by decide +kernel
theorem dX11_market_270 : decode cX11_market 270 = .ok (.getfield 7, 3) := by decide +kernel
theorem dX11_market_273 : decode cX11_market 273 = .ok (.bipush 35, 2) := by decide +kernel
theorem dX11_market_275 : decode cX11_market 275 = .ok (.iaload, 1) := by decide +kernel
theorem dX11_market_276 : decode cX11_market 276 = .ok (.iconst 1, 1) := by decide +kernel
theorem dX11_market_277 : decode cX11_market 277 = .ok (.iload 4, 2) := by decide +kernel
theorem dX11_market_279 : decode cX11_market 279 = .ok (.ishl, 1) := by decide +kernel
theorem dX11_market_280 : decode cX11_market 280 = .ok (.iconst (-1), 1) := by decide +kernel
theorem dX11_market_281 : decode cX11_market 281 = .ok (.ixor, 1) := by decide +kernel
theorem dX11_market_282 : decode cX11_market 282 = .ok (.iand, 1) := by decide +kernel
theorem dX11_market_283 : decode cX11_market 283 = .ok (.iastore, 1) := by decide +kernel
theorem dX11_market_284 : decode cX11_market 284 = .ok (.iinc 4 1, 3) := by decide +kernel
theorem dX11_market_287 : decode cX11_market 287 = .ok (.goto (-56), 3) := by decide +kernel
theorem dX11_market_290 : decode cX11_market 290 = .ok (.aload_n 0, 1) := by decide +kernel
theorem dX11_market_291 : decode cX11_market 291 = .ok (.iconst 0, 1) := by decide +kernel
theorem dX11_market_292 : decode cX11_market 292 = .ok (.putfield 266, 3) := by decide +kernel
theorem dX11_market_295 : decode cX11_market 295 = .ok (.iconst 0, 1) := by decide +kernel
theorem dX11_market_296 : decode cX11_market 296 = .ok (.istore 4, 2) := by decide +kernel
theorem dX11_market_298 : decode cX11_market 298 = .ok (.iload 4, 2) := by decide +kernel
theorem dX11_market_300 : decode cX11_market 300 = .ok (.iconst 4, 1) := by decide +kernel
theorem dX11_market_301 : decode cX11_market 301 = .ok (.if_icmp .ge 42, 3) := by decide +kernel
theorem dX11_market_304 : decode cX11_market 304 = .ok (.aload_n 0, 1) := by decide +kernel
theorem dX11_market_305 : decode cX11_market 305 = .ok (.getfield 22, 3) := by decide +kernel
theorem dX11_market_308 : decode cX11_market 308 = .ok (.iload 4, 2) := by decide +kernel
theorem dX11_market_310 : decode cX11_market 310 = .ok (.iaload, 1) := by decide +kernel
theorem dX11_market_311 : decode cX11_market 311 = .ok (.iconst (-1), 1) := by decide +kernel
theorem dX11_market_312 : decode cX11_market 312 = .ok (.if_icmp .eq 25, 3) := by decide +kernel
theorem dX11_market_315 : decode cX11_market 315 = .ok (.aload_n 0, 1) := by decide +kernel
theorem dX11_market_316 : decode cX11_market 316 = .ok (.aload_n 0, 1) := by decide +kernel
theorem dX11_market_317 : decode cX11_market 317 = .ok (.getfield 22, 3) := by decide +kernel
theorem dX11_market_320 : decode cX11_market 320 = .ok (.iload 4, 2) := by decide +kernel
theorem dX11_market_322 : decode cX11_market 322 = .ok (.iaload, 1) := by decide +kernel
theorem dX11_market_323 : decode cX11_market 323 = .ok (.invokevirtual 263, 3) := by decide +kernel
theorem dX11_market_326 : decode cX11_market 326 = .ok (.ifCond .ne 11, 3) := by decide +kernel
theorem dX11_market_329 : decode cX11_market 329 = .ok (.aload_n 0, 1) := by decide +kernel
theorem dX11_market_330 : decode cX11_market 330 = .ok (.getfield 22, 3) := by decide +kernel
theorem dX11_market_333 : decode cX11_market 333 = .ok (.iload 4, 2) := by decide +kernel
theorem dX11_market_335 : decode cX11_market 335 = .ok (.iconst (-1), 1) := by decide +kernel
theorem dX11_market_336 : decode cX11_market 336 = .ok (.iastore, 1) := by decide +kernel
theorem dX11_market_337 : decode cX11_market 337 = .ok (.iinc 4 1, 3) := by decide +kernel
theorem dX11_market_340 : decode cX11_market 340 = .ok (.goto (-42), 3) := by decide +kernel
theorem dX11_market_343 : decode cX11_market 343 = .ok (.iload_n 3, 1) := by decide +kernel
theorem dX11_market_344 : decode cX11_market 344 = .ok (.ireturn, 1) := by decide +kernel
theorem dX11_owedAll_0 : decode cX11_owedAll 0 = .ok (.iconst 0, 1) := by decide +kernel
theorem dX11_owedAll_1 : decode cX11_owedAll 1 = .ok (.istore_n 1, 1) := by decide +kernel
theorem dX11_owedAll_2 : decode cX11_owedAll 2 = .ok (.iconst 0, 1) := by decide +kernel
theorem dX11_owedAll_3 : decode cX11_owedAll 3 = .ok (.istore_n 2, 1) := by decide +kernel
theorem dX11_owedAll_4 : decode cX11_owedAll 4 = .ok (.iload_n 2, 1) := by decide +kernel
theorem dX11_owedAll_5 : decode cX11_owedAll 5 = .ok (.bipush 10, 2) := by decide +kernel
theorem dX11_owedAll_7 : decode cX11_owedAll 7 = .ok (.if_icmp .ge 33, 3) := by decide +kernel
theorem dX11_owedAll_10 : decode cX11_owedAll 10 = .ok (.iload_n 1, 1) := by decide +kernel
theorem dX11_owedAll_11 : decode cX11_owedAll 11 = .ok (.aload_n 0, 1) := by decide +kernel
theorem dX11_owedAll_12 : decode cX11_owedAll 12 = .ok (.iload_n 2, 1) := by decide +kernel
theorem dX11_owedAll_13 : decode cX11_owedAll 13 = .ok (.invokevirtual 146, 3) := by decide +kernel
theorem dX11_owedAll_16 : decode cX11_owedAll 16 = .ok (.ifCond .eq 15, 3) := by decide +kernel
theorem dX11_owedAll_19 : decode cX11_owedAll 19 = .ok (.aload_n 0, 1) := by decide +kernel
theorem dX11_owedAll_20 : decode cX11_owedAll 20 = .ok (.getfield 7, 3) := by decide +kernel
theorem dX11_owedAll_23 : decode cX11_owedAll 23 = .ok (.bipush 14, 2) := by decide +kernel
theorem dX11_owedAll_25 : decode cX11_owedAll 25 = .ok (.iload_n 2, 1) := by decide +kernel
theorem dX11_owedAll_26 : decode cX11_owedAll 26 = .ok (.iadd, 1) := by decide +kernel
theorem dX11_owedAll_27 : decode cX11_owedAll 27 = .ok (.iaload, 1) := by decide +kernel
theorem dX11_owedAll_28 : decode cX11_owedAll 28 = .ok (.goto 4, 3) := by decide +kernel
theorem dX11_owedAll_31 : decode cX11_owedAll 31 = .ok (.iconst 0, 1) := by decide +kernel
theorem dX11_owedAll_32 : decode cX11_owedAll 32 = .ok (.iadd, 1) := by decide +kernel
theorem dX11_owedAll_33 : decode cX11_owedAll 33 = .ok (.istore_n 1, 1) := by decide +kernel
theorem dX11_owedAll_34 : decode cX11_owedAll 34 = .ok (.iinc 2 1, 3) := by decide +kernel
theorem dX11_owedAll_37 : decode cX11_owedAll 37 = .ok (.goto (-33), 3) := by decide +kernel
theorem dX11_owedAll_40 : decode cX11_owedAll 40 = .ok (.iload_n 1, 1) := by decide +kernel
theorem dX11_owedAll_41 : decode cX11_owedAll 41 = .ok (.ireturn, 1) := by decide +kernel
theorem dX11_prints_0 : decode cX11_prints 0 = .ok (.iload_n 1, 1) := by decide +kernel
theorem dX11_prints_1 : decode cX11_prints 1 = .ok (.iconst 2, 1) := by decide +kernel
theorem dX11_prints_2 : decode cX11_prints 2 = .ok (.bipush 20, 2) := by decide +kernel
theorem dX11_prints_4 : decode cX11_prints 4 = .ok (.invokestatic 150, 3) := by decide +kernel
theorem dX11_prints_7 : decode cX11_prints 7 = .ok (.ifCond .eq 20, 3) := by decide +kernel
theorem dX11_prints_10 : decode cX11_prints 10 = .ok (.iload_n 2, 1) := by decide +kernel
theorem dX11_prints_11 : decode cX11_prints 11 = .ok (.iconst 0, 1) := by decide +kernel
theorem dX11_prints_12 : decode cX11_prints 12 = .ok (.iconst 1, 1) := by decide +kernel
theorem dX11_prints_13 : decode cX11_prints 13 = .ok (.invokestatic 150, 3) := by decide +kernel
theorem dX11_prints_16 : decode cX11_prints 16 = .ok (.ifCond .eq 11, 3) := by decide +kernel
theorem dX11_prints_19 : decode cX11_prints 19 = .ok (.iload_n 1, 1) := by decide +kernel
theorem dX11_prints_20 : decode cX11_prints 20 = .ok (.aload_n 0, 1) := by decide +kernel
theorem dX11_prints_21 : decode cX11_prints 21 = .ok (.getfield 164, 3) := by decide +kernel
theorem dX11_prints_24 : decode cX11_prints 24 = .ok (.if_icmp .le 5, 3) := by decide +kernel
theorem dX11_prints_27 : decode cX11_prints 27 = .ok (.iconst (-1), 1) := by decide +kernel
theorem dX11_prints_28 : decode cX11_prints 28 = .ok (.ireturn, 1) := by decide +kernel
theorem dX11_prints_29 : decode cX11_prints 29 = .ok (.aload_n 0, 1) := by decide +kernel
theorem dX11_prints_30 : decode cX11_prints 30 = .ok (.iconst 0, 1) := by decide +kernel
theorem dX11_prints_31 : decode cX11_prints 31 = .ok (.putfield 164, 3) := by decide +kernel
theorem dX11_prints_34 : decode cX11_prints 34 = .ok (.aload_n 0, 1) := by decide +kernel
theorem dX11_prints_35 : decode cX11_prints 35 = .ok (.iload_n 1, 1) := by decide +kernel
theorem dX11_prints_36 : decode cX11_prints 36 = .ok (.invokevirtual 443, 3) := by decide +kernel
theorem dX11_prints_39 : decode cX11_prints 39 = .ok (.ifCond .ne 6, 3) := by decide +kernel
theorem dX11_prints_42 : decode cX11_prints 42 = .ok (.bipush (-3), 2) := by decide +kernel
theorem dX11_prints_44 : decode cX11_prints 44 = .ok (.ireturn, 1) := by decide +kernel
theorem dX11_prints_45 : decode cX11_prints 45 = .ok (.iload_n 2, 1) := by decide +kernel
theorem dX11_prints_46 : decode cX11_prints 46 = .ok (.iconst 1, 1) := by decide +kernel
theorem dX11_prints_47 : decode cX11_prints 47 = .ok (.if_icmp .ne 16, 3) := by decide +kernel
theorem dX11_prints_50 : decode cX11_prints 50 = .ok (.aload_n 0, 1) := by decide +kernel
theorem dX11_prints_51 : decode cX11_prints 51 = .ok (.getfield 7, 3) := by decide +kernel
theorem dX11_prints_54 : decode cX11_prints 54 = .ok (.bipush 35, 2) := by decide +kernel
theorem dX11_prints_56 : decode cX11_prints 56 = .ok (.iaload, 1) := by decide +kernel
theorem dX11_prints_57 : decode cX11_prints 57 = .ok (.ifCond .ne 6, 3) := by decide +kernel
theorem dX11_prints_60 : decode cX11_prints 60 = .ok (.bipush (-4), 2) := by decide +kernel
theorem dX11_prints_62 : decode cX11_prints 62 = .ok (.ireturn, 1) := by decide +kernel
theorem dX11_prints_63 : decode cX11_prints 63 = .ok (.aload_n 0, 1) := by decide +kernel
theorem dX11_prints_64 : decode cX11_prints 64 = .ok (.iload_n 1, 1) := by decide +kernel
theorem dX11_prints_65 : decode cX11_prints 65 = .ok (.invokevirtual 446, 3) := by decide +kernel
theorem dX11_prints_68 : decode cX11_prints 68 = .ok (.istore_n 3, 1) := by decide +kernel
theorem dX11_prints_69 : decode cX11_prints 69 = .ok (.iconst 0, 1) := by decide +kernel
theorem dX11_prints_70 : decode cX11_prints 70 = .ok (.istore 4, 2) := by decide +kernel
theorem dX11_prints_72 : decode cX11_prints 72 = .ok (.iconst 0, 1) := by decide +kernel
theorem dX11_prints_73 : decode cX11_prints 73 = .ok (.istore 5, 2) := by decide +kernel
theorem dX11_prints_75 : decode cX11_prints 75 = .ok (.iload 5, 2) := by decide +kernel
theorem dX11_prints_77 : decode cX11_prints 77 = .ok (.bipush 10, 2) := by decide +kernel
theorem dX11_prints_79 : decode cX11_prints 79 = .ok (.if_icmp .ge 62, 3) := by decide +kernel
theorem dX11_prints_82 : decode cX11_prints 82 = .ok (.aload_n 0, 1) := by decide +kernel
theorem dX11_prints_83 : decode cX11_prints 83 = .ok (.iload 5, 2) := by decide +kernel
theorem dX11_prints_85 : decode cX11_prints 85 = .ok (.invokevirtual 146, 3) := by decide +kernel
theorem dX11_prints_88 : decode cX11_prints 88 = .ok (.ifCond .ne 6, 3) := by decide +kernel
theorem dX11_prints_91 : decode cX11_prints 91 = .ok (.goto 44, 3) := by decide +kernel
theorem dX11_prints_94 : decode cX11_prints 94 = .ok (.aload_n 0, 1) := by decide +kernel
theorem dX11_prints_95 : decode cX11_prints 95 = .ok (.aload_n 0, 1) := by decide +kernel
theorem dX11_prints_96 : decode cX11_prints 96 = .ok (.getfield 7, 3) := by decide +kernel
theorem dX11_prints_99 : decode cX11_prints 99 = .ok (.iconst 4, 1) := by decide +kernel
theorem dX11_prints_100 : decode cX11_prints 100 = .ok (.iload 5, 2) := by decide +kernel
theorem dX11_prints_102 : decode cX11_prints 102 = .ok (.iadd, 1) := by decide +kernel
theorem dX11_prints_103 : decode cX11_prints 103 = .ok (.iaload, 1) := by decide +kernel
theorem dX11_prints_104 : decode cX11_prints 104 = .ok (.iconst 3, 1) := by decide +kernel
theorem dX11_prints_105 : decode cX11_prints 105 = .ok (.iconst 1, 1) := by decide +kernel
theorem dX11_prints_106 : decode cX11_prints 106 = .ok (.invokevirtual 355, 3) := by decide +kernel
theorem dX11_prints_109 : decode cX11_prints 109 = .ok (.aload_n 0, 1) := by decide +kernel
theorem dX11_prints_110 : decode cX11_prints 110 = .ok (.getfield 92, 3) := by decide +kernel
theorem dX11_prints_113 : decode cX11_prints 113 = .ok (.aload_n 0, 1) := by decide +kernel
theorem dX11_prints_114 : decode cX11_prints 114 = .ok (.getfield 32, 3) := by decide +kernel
theorem dX11_prints_117 : decode cX11_prints 117 = .ok (.iconst 0, 1) := by decide +kernel
theorem dX11_prints_118 : decode cX11_prints 118 = .ok (.baload, 1) := by decide +kernel
theorem dX11_prints_119 : decode cX11_prints 119 = .ok (.iaload, 1) := by decide +kernel
theorem dX11_prints_120 : decode cX11_prints 120 = .ok (.ldc_w 348, 3) := by decide +kernel
theorem dX11_prints_123 : decode cX11_prints 123 = .ok (.if_icmp .ge 12, 3) := by decide +kernel
theorem dX11_prints_126 : decode cX11_prints 126 = .ok (.iload 4, 2) := by decide +kernel
theorem dX11_prints_128 : decode cX11_prints 128 = .ok (.iconst 1, 1) := by decide +kernel
theorem dX11_prints_129 : decode cX11_prints 129 = .ok (.iload 5, 2) := by decide +kernel
theorem dX11_prints_131 : decode cX11_prints 131 = .ok (.ishl, 1) := by decide +kernel
theorem dX11_prints_132 : decode cX11_prints 132 = .ok (.ior, 1) := by decide +kernel
theorem dX11_prints_133 : decode cX11_prints 133 = .ok (.istore 4, 2) := by decide +kernel
theorem dX11_prints_135 : decode cX11_prints 135 = .ok (.iinc 5 1, 3) := by decide +kernel
theorem dX11_prints_138 : decode cX11_prints 138 = .ok (.goto (-63), 3) := by decide +kernel
theorem dX11_prints_141 : decode cX11_prints 141 = .ok (.iload_n 2, 1) := by decide +kernel
theorem dX11_prints_142 : decode cX11_prints 142 = .ok (.ifCond .ne 15, 3) := by decide +kernel
theorem dX11_prints_145 : decode cX11_prints 145 = .ok (.iload_n 3, 1) := by decide +kernel
theorem dX11_prints_146 : decode cX11_prints 146 = .ok (.iconst (-1), 1) := by decide +kernel
theorem dX11_prints_147 : decode cX11_prints 147 = .ok (.if_icmp .ne 8, 3) := by decide +kernel
theorem dX11_prints_150 : decode cX11_prints 150 = .ok (.iload 4, 2) := by decide +kernel
theorem dX11_prints_152 : decode cX11_prints 152 = .ok (.goto 4, 3) := by decide +kernel
theorem dX11_prints_155 : decode cX11_prints 155 = .ok (.iconst 0, 1) := by decide +kernel
theorem dX11_prints_156 : decode cX11_prints 156 = .ok (.ireturn, 1) := by decide +kernel
theorem dX11_prints_157 : decode cX11_prints 157 = .ok (.iload 4, 2) := by decide +kernel
theorem dX11_prints_159 : decode cX11_prints 159 = .ok (.ifCond .ne 7, 3) := by decide +kernel
theorem dX11_prints_162 : decode cX11_prints 162 = .ok (.iconst 0, 1) := by decide +kernel
theorem dX11_prints_163 : decode cX11_prints 163 = .ok (.goto 14, 3) := by decide +kernel
theorem dX11_prints_166 : decode cX11_prints 166 = .ok (.iload_n 3, 1) := by decide +kernel
theorem dX11_prints_167 : decode cX11_prints 167 = .ok (.iconst (-1), 1) := by decide +kernel
theorem dX11_prints_168 : decode cX11_prints 168 = .ok (.if_icmp .ne 8, 3) := by decide +kernel
theorem dX11_prints_171 : decode cX11_prints 171 = .ok (.bipush (-2), 2) := by decide +kernel
theorem dX11_prints_173 : decode cX11_prints 173 = .ok (.goto 4, 3) := by decide +kernel
theorem dX11_prints_176 : decode cX11_prints 176 = .ok (.iload_n 3, 1) := by decide +kernel
theorem dX11_prints_177 : decode cX11_prints 177 = .ok (.ireturn, 1) := by decide +kernel
theorem dX11_seed_0 : decode cX11_seed 0 = .ok (.iload_n 1, 1) := by decide +kernel
theorem dX11_seed_1 : decode cX11_seed 1 = .ok (.iconst 0, 1) := by decide +kernel
theorem dX11_seed_2 : decode cX11_seed 2 = .ok (.ldc_w 452, 3) := by decide +kernel
theorem dX11_seed_5 : decode cX11_seed 5 = .ok (.invokestatic 150, 3) := by decide +kernel
theorem dX11_seed_8 : decode cX11_seed 8 = .ok (.ifCond .ne 5, 3) := by decide +kernel
theorem dX11_seed_11 : decode cX11_seed 11 = .ok (.iconst 0, 1) := by decide +kernel
theorem dX11_seed_12 : decode cX11_seed 12 = .ok (.ireturn, 1) := by decide +kernel
theorem dX11_seed_13 : decode cX11_seed 13 = .ok (.aload_n 0, 1) := by decide +kernel
theorem dX11_seed_14 : decode cX11_seed 14 = .ok (.getfield 7, 3) := by decide +kernel
theorem dX11_seed_17 : decode cX11_seed 17 = .ok (.bipush 38, 2) := by decide +kernel
theorem dX11_seed_19 : decode cX11_seed 19 = .ok (.iload_n 1, 1) := by decide +kernel
theorem dX11_seed_20 : decode cX11_seed 20 = .ok (.iastore, 1) := by decide +kernel
theorem dX11_seed_21 : decode cX11_seed 21 = .ok (.iconst 1, 1) := by decide +kernel
theorem dX11_seed_22 : decode cX11_seed 22 = .ok (.ireturn, 1) := by decide +kernel
theorem dX11_servedBy_0 : decode cX11_servedBy 0 = .ok (.iload_n 1, 1) := by decide +kernel
theorem dX11_servedBy_1 : decode cX11_servedBy 1 = .ok (.iconst 1, 1) := by decide +kernel
theorem dX11_servedBy_2 : decode cX11_servedBy 2 = .ok (.bipush 60, 2) := by decide +kernel
theorem dX11_servedBy_4 : decode cX11_servedBy 4 = .ok (.invokestatic 150, 3) := by decide +kernel
theorem dX11_servedBy_7 : decode cX11_servedBy 7 = .ok (.ifCond .eq 12, 3) := by decide +kernel
theorem dX11_servedBy_10 : decode cX11_servedBy 10 = .ok (.iload_n 2, 1) := by decide +kernel
theorem dX11_servedBy_11 : decode cX11_servedBy 11 = .ok (.iconst 0, 1) := by decide +kernel
theorem dX11_servedBy_12 : decode cX11_servedBy 12 = .ok (.iconst 2, 1) := by decide +kernel
theorem dX11_servedBy_13 : decode cX11_servedBy 13 = .ok (.invokestatic 150, 3) := by decide +kernel
theorem dX11_servedBy_16 : decode cX11_servedBy 16 = .ok (.ifCond .ne 5, 3) := by decide +kernel
theorem dX11_servedBy_19 : decode cX11_servedBy 19 = .ok (.iconst (-1), 1) := by decide +kernel
theorem dX11_servedBy_20 : decode cX11_servedBy 20 = .ok (.ireturn, 1) := by decide +kernel
theorem dX11_servedBy_21 : decode cX11_servedBy 21 = .ok (.iload_n 2, 1) := by decide +kernel
theorem dX11_servedBy_22 : decode cX11_servedBy 22 = .ok (.iconst 2, 1) := by decide +kernel
theorem dX11_servedBy_23 : decode cX11_servedBy 23 = .ok (.if_icmp .ne 17, 3) := by decide +kernel
theorem dX11_servedBy_26 : decode cX11_servedBy 26 = .ok (.aload_n 0, 1) := by decide +kernel
theorem dX11_servedBy_27 : decode cX11_servedBy 27 = .ok (.getfield 7, 3) := by decide +kernel
theorem dX11_servedBy_30 : decode cX11_servedBy 30 = .ok (.bipush 34, 2) := by decide +kernel
theorem dX11_servedBy_32 : decode cX11_servedBy 32 = .ok (.iaload, 1) := by decide +kernel
theorem dX11_servedBy_33 : decode cX11_servedBy 33 = .ok (.iconst 3, 1) := by decide +kernel
theorem dX11_servedBy_34 : decode cX11_servedBy 34 = .ok (.if_icmp .eq 16, 3) := by decide +kernel
theorem dX11_servedBy_37 : decode cX11_servedBy 37 = .ok (.goto 11, 3) := by decide +kernel
theorem dX11_servedBy_40 : decode cX11_servedBy 40 = .ok (.aload_n 0, 1) := by decide +kernel
theorem dX11_servedBy_41 : decode cX11_servedBy 41 = .ok (.iload_n 2, 1) := by decide +kernel
theorem dX11_servedBy_42 : decode cX11_servedBy 42 = .ok (.invokevirtual 260, 3) := by decide +kernel
theorem dX11_servedBy_45 : decode cX11_servedBy 45 = .ok (.ifCond .ne 5, 3) := by decide +kernel
theorem dX11_servedBy_48 : decode cX11_servedBy 48 = .ok (.iconst (-1), 1) := by decide +kernel
theorem dX11_servedBy_49 : decode cX11_servedBy 49 = .ok (.ireturn, 1) := by decide +kernel
theorem dX11_servedBy_50 : decode cX11_servedBy 50 = .ok (.aload_n 0, 1) := by decide +kernel
theorem dX11_servedBy_51 : decode cX11_servedBy 51 = .ok (.getfield 7, 3) := by decide +kernel
theorem dX11_servedBy_54 : decode cX11_servedBy 54 = .ok (.aload_n 0, 1) := by decide +kernel
theorem dX11_servedBy_55 : decode cX11_servedBy 55 = .ok (.getfield 13, 3) := by decide +kernel
theorem dX11_servedBy_58 : decode cX11_servedBy 58 = .ok (.invokestatic 403, 3) := by decide +kernel
theorem dX11_servedBy_61 : decode cX11_servedBy 61 = .ok (.iload_n 2, 1) := by decide +kernel
theorem dX11_servedBy_62 : decode cX11_servedBy 62 = .ok (.iconst 2, 1) := by decide +kernel
theorem dX11_servedBy_63 : decode cX11_servedBy 63 = .ok (.if_icmp .ge 13, 3) := by decide +kernel
theorem dX11_servedBy_66 : decode cX11_servedBy 66 = .ok (.aload_n 0, 1) := by decide +kernel
theorem dX11_servedBy_67 : decode cX11_servedBy 67 = .ok (.getfield 7, 3) := by decide +kernel
theorem dX11_servedBy_70 : decode cX11_servedBy 70 = .ok (.bipush 34, 2) := by decide +kernel
theorem dX11_servedBy_72 : decode cX11_servedBy 72 = .ok (.iconst 1, 1) := by decide +kernel
theorem dX11_servedBy_73 : decode cX11_servedBy 73 = .ok (.iload_n 2, 1) := by decide +kernel
theorem dX11_servedBy_74 : decode cX11_servedBy 74 = .ok (.ishl, 1) := by decide +kernel
theorem dX11_servedBy_75 : decode cX11_servedBy 75 = .ok (.iastore, 1) := by decide +kernel
theorem dX11_servedBy_76 : decode cX11_servedBy 76 = .ok (.aload_n 0, 1) := by decide +kernel
theorem dX11_servedBy_77 : decode cX11_servedBy 77 = .ok (.iload_n 1, 1) := by decide +kernel
theorem dX11_servedBy_78 : decode cX11_servedBy 78 = .ok (.invokevirtual 400, 3) := by decide +kernel
theorem dX11_servedBy_81 : decode cX11_servedBy 81 = .ok (.aload_n 0, 1) := by decide +kernel
theorem dX11_servedBy_82 : decode cX11_servedBy 82 = .ok (.getfield 13, 3) := by decide +kernel
theorem dX11_servedBy_85 : decode cX11_servedBy 85 = .ok (.aload_n 0, 1) := by decide +kernel
theorem dX11_servedBy_86 : decode cX11_servedBy 86 = .ok (.getfield 7, 3) := by decide +kernel
theorem dX11_servedBy_89 : decode cX11_servedBy 89 = .ok (.invokestatic 403, 3) := by decide +kernel
theorem dX11_servedBy_92 : decode cX11_servedBy 92 = .ok (.aload_n 0, 1) := by decide +kernel
theorem dX11_servedBy_93 : decode cX11_servedBy 93 = .ok (.getfield 371, 3) := by decide +kernel
theorem dX11_servedBy_96 : decode cX11_servedBy 96 = .ok (.ireturn, 1) := by decide +kernel
theorem dX11_together_0 : decode cX11_together 0 = .ok (.iload_n 1, 1) := by decide +kernel
theorem dX11_together_1 : decode cX11_together 1 = .ok (.iconst 1, 1) := by decide +kernel
theorem dX11_together_2 : decode cX11_together 2 = .ok (.bipush 8, 2) := by decide +kernel
theorem dX11_together_4 : decode cX11_together 4 = .ok (.invokestatic 150, 3) := by decide +kernel
theorem dX11_together_7 : decode cX11_together 7 = .ok (.ifCond .eq 24, 3) := by decide +kernel
theorem dX11_together_10 : decode cX11_together 10 = .ok (.iload_n 2, 1) := by decide +kernel
theorem dX11_together_11 : decode cX11_together 11 = .ok (.iconst 0, 1) := by decide +kernel
theorem dX11_together_12 : decode cX11_together 12 = .ok (.iconst 2, 1) := by decide +kernel
theorem dX11_together_13 : decode cX11_together 13 = .ok (.invokestatic 150, 3) := by decide +kernel
theorem dX11_together_16 : decode cX11_together 16 = .ok (.ifCond .eq 15, 3) := by decide +kernel
theorem dX11_together_19 : decode cX11_together 19 = .ok (.iconst 2, 1) := by decide +kernel
theorem dX11_together_20 : decode cX11_together 20 = .ok (.iload_n 1, 1) := by decide +kernel
theorem dX11_together_21 : decode cX11_together 21 = .ok (.imul, 1) := by decide +kernel
theorem dX11_together_22 : decode cX11_together 22 = .ok (.iconst 1, 1) := by decide +kernel
theorem dX11_together_23 : decode cX11_together 23 = .ok (.iadd, 1) := by decide +kernel
theorem dX11_together_24 : decode cX11_together 24 = .ok (.aload_n 0, 1) := by decide +kernel
theorem dX11_together_25 : decode cX11_together 25 = .ok (.getfield 164, 3) := by decide +kernel
theorem dX11_together_28 : decode cX11_together 28 = .ok (.if_icmp .le 5, 3) := by decide +kernel
theorem dX11_together_31 : decode cX11_together 31 = .ok (.iconst (-1), 1) := by decide +kernel
theorem dX11_together_32 : decode cX11_together 32 = .ok (.ireturn, 1) := by decide +kernel
theorem dX11_together_33 : decode cX11_together 33 = .ok (.aload_n 0, 1) := by decide +kernel
theorem dX11_together_34 : decode cX11_together 34 = .ok (.getfield 32, 3) := by decide +kernel
theorem dX11_together_37 : decode cX11_together 37 = .ok (.iconst 2, 1) := by decide +kernel
theorem dX11_together_38 : decode cX11_together 38 = .ok (.iload_n 1, 1) := by decide +kernel
theorem dX11_together_39 : decode cX11_together 39 = .ok (.imul, 1) := by decide +kernel
theorem dX11_together_40 : decode cX11_together 40 = .ok (.baload, 1) := by decide +kernel
theorem dX11_together_41 : decode cX11_together 41 = .ok (.sipush 255, 3) := by decide +kernel
theorem dX11_together_44 : decode cX11_together 44 = .ok (.iand, 1) := by decide +kernel
theorem dX11_together_45 : decode cX11_together 45 = .ok (.istore_n 3, 1) := by decide +kernel
theorem dX11_together_46 : decode cX11_together 46 = .ok (.iconst 2, 1) := by decide +kernel
theorem dX11_together_47 : decode cX11_together 47 = .ok (.iload_n 1, 1) := by decide +kernel
theorem dX11_together_48 : decode cX11_together 48 = .ok (.imul, 1) := by decide +kernel
theorem dX11_together_49 : decode cX11_together 49 = .ok (.iconst 1, 1) := by decide +kernel
theorem dX11_together_50 : decode cX11_together 50 = .ok (.iadd, 1) := by decide +kernel
theorem dX11_together_51 : decode cX11_together 51 = .ok (.iconst 2, 1) := by decide +kernel
theorem dX11_together_52 : decode cX11_together 52 = .ok (.iload_n 3, 1) := by decide +kernel
theorem dX11_together_53 : decode cX11_together 53 = .ok (.imul, 1) := by decide +kernel
theorem dX11_together_54 : decode cX11_together 54 = .ok (.iadd, 1) := by decide +kernel
theorem dX11_together_55 : decode cX11_together 55 = .ok (.aload_n 0, 1) := by decide +kernel
theorem dX11_together_56 : decode cX11_together 56 = .ok (.getfield 164, 3) := by decide +kernel
theorem dX11_together_59 : decode cX11_together 59 = .ok (.if_icmp .le 5, 3) := by decide +kernel
theorem dX11_together_62 : decode cX11_together 62 = .ok (.iconst (-1), 1) := by decide +kernel
theorem dX11_together_63 : decode cX11_together 63 = .ok (.ireturn, 1) := by decide +kernel
theorem dX11_together_64 : decode cX11_together 64 = .ok (.aload_n 0, 1) := by decide +kernel
theorem dX11_together_65 : decode cX11_together 65 = .ok (.iconst 0, 1) := by decide +kernel
theorem dX11_together_66 : decode cX11_together 66 = .ok (.putfield 164, 3) := by decide +kernel
theorem dX11_together_69 : decode cX11_together 69 = .ok (.iload_n 3, 1) := by decide +kernel
theorem dX11_together_70 : decode cX11_together 70 = .ok (.bipush 12, 2) := by decide +kernel
theorem dX11_together_72 : decode cX11_together 72 = .ok (.if_icmp .le 6, 3) := by decide +kernel
theorem dX11_together_75 : decode cX11_together 75 = .ok (.bipush (-2), 2) := by decide +kernel
theorem dX11_together_77 : decode cX11_together 77 = .ok (.ireturn, 1) := by decide +kernel
theorem dX11_together_78 : decode cX11_together 78 = .ok (.iconst 0, 1) := by decide +kernel
theorem dX11_together_79 : decode cX11_together 79 = .ok (.istore 4, 2) := by decide +kernel
theorem dX11_together_81 : decode cX11_together 81 = .ok (.iload 4, 2) := by decide +kernel
theorem dX11_together_83 : decode cX11_together 83 = .ok (.iload_n 1, 1) := by decide +kernel
theorem dX11_together_84 : decode cX11_together 84 = .ok (.if_icmp .ge 26, 3) := by decide +kernel
theorem dX11_together_87 : decode cX11_together 87 = .ok (.aload_n 0, 1) := by decide +kernel
theorem dX11_together_88 : decode cX11_together 88 = .ok (.getfield 123, 3) := by decide +kernel
theorem dX11_together_91 : decode cX11_together 91 = .ok (.iload 4, 2) := by decide +kernel
theorem dX11_together_93 : decode cX11_together 93 = .ok (.iload 4, 2) := by decide +kernel
theorem dX11_together_95 : decode cX11_together 95 = .ok (.iastore, 1) := by decide +kernel
theorem dX11_together_96 : decode cX11_together 96 = .ok (.aload_n 0, 1) := by decide +kernel
theorem dX11_together_97 : decode cX11_together 97 = .ok (.getfield 126, 3) := by decide +kernel
theorem dX11_together_100 : decode cX11_together 100 = .ok (.iload 4, 2) := by decide +kernel
theorem dX11_together_102 : decode cX11_together 102 = .ok (.iconst 0, 1) := by decide +kernel
theorem dX11_together_103 : decode cX11_together 103 = .ok (.iastore, 1) := by decide +kernel
theorem dX11_together_104 : decode cX11_together 104 = .ok (.iinc 4 1, 3) := by decide +kernel
theorem dX11_together_107 : decode cX11_together 107 = .ok (.goto (-26), 3) := by decide +kernel
theorem dX11_together_110 : decode cX11_together 110 = .ok (.iconst 0, 1) := by decide +kernel
theorem dX11_together_111 : decode cX11_together 111 = .ok (.istore 4, 2) := by decide +kernel
theorem dX11_together_113 : decode cX11_together 113 = .ok (.iload 4, 2) := by decide +kernel
theorem dX11_together_115 : decode cX11_together 115 = .ok (.iconst 2, 1) := by decide +kernel
theorem dX11_together_116 : decode cX11_together 116 = .ok (.iload_n 3, 1) := by decide +kernel
theorem dX11_together_117 : decode cX11_together 117 = .ok (.imul, 1) := by decide +kernel
theorem dX11_together_118 : decode cX11_together 118 = .ok (.if_icmp .ge 35, 3) := by decide +kernel
theorem dX11_together_121 : decode cX11_together 121 = .ok (.aload_n 0, 1) := by decide +kernel
theorem dX11_together_122 : decode cX11_together 122 = .ok (.getfield 32, 3) := by decide +kernel
theorem dX11_together_125 : decode cX11_together 125 = .ok (.iconst 2, 1) := by decide +kernel
theorem dX11_together_126 : decode cX11_together 126 = .ok (.iload_n 1, 1) := by decide +kernel
theorem dX11_together_127 : decode cX11_together 127 = .ok (.imul, 1) := by decide +kernel
theorem dX11_together_128 : decode cX11_together 128 = .ok (.iconst 1, 1) := by decide +kernel
theorem dX11_together_129 : decode cX11_together 129 = .ok (.iadd, 1) := by decide +kernel
theorem dX11_together_130 : decode cX11_together 130 = .ok (.iload 4, 2) := by decide +kernel
theorem dX11_together_132 : decode cX11_together 132 = .ok (.iadd, 1) := by decide +kernel
theorem dX11_together_133 : decode cX11_together 133 = .ok (.baload, 1) := by decide +kernel
theorem dX11_together_134 : decode cX11_together 134 = .ok (.iconst 0, 1) := by decide +kernel
theorem dX11_together_135 : decode cX11_together 135 = .ok (.iload_n 1, 1) := by decide +kernel
theorem dX11_together_136 : decode cX11_together 136 = .ok (.iconst 1, 1) := by decide +kernel
theorem dX11_together_137 : decode cX11_together 137 = .ok (.isub, 1) := by decide +kernel
theorem dX11_together_138 : decode cX11_together 138 = .ok (.invokestatic 150, 3) := by decide +kernel
theorem dX11_together_141 : decode cX11_together 141 = .ok (.ifCond .ne 6, 3) := by decide +kernel
theorem dX11_together_144 : decode cX11_together 144 = .ok (.bipush (-2), 2) := by decide +kernel
theorem dX11_together_146 : decode cX11_together 146 = .ok (.ireturn, 1) := by decide +kernel
theorem dX11_together_147 : decode cX11_together 147 = .ok (.iinc 4 1, 3) := by decide +kernel
theorem dX11_together_150 : decode cX11_together 150 = .ok (.goto (-37), 3) := by decide +kernel
theorem dX11_together_153 : decode cX11_together 153 = .ok (.iconst 0, 1) := by decide +kernel
theorem dX11_together_154 : decode cX11_together 154 = .ok (.istore 4, 2) := by decide +kernel
theorem dX11_together_156 : decode cX11_together 156 = .ok (.iload 4, 2) := by decide +kernel
theorem dX11_together_158 : decode cX11_together 158 = .ok (.iload_n 3, 1) := by decide +kernel
theorem dX11_together_159 : decode cX11_together 159 = .ok (.if_icmp .ge 44, 3) := by decide +kernel
theorem dX11_together_162 : decode cX11_together 162 = .ok (.aload_n 0, 1) := by decide +kernel
theorem dX11_together_163 : decode cX11_together 163 = .ok (.aload_n 0, 1) := by decide +kernel
theorem dX11_together_164 : decode cX11_together 164 = .ok (.getfield 32, 3) := by decide +kernel
theorem dX11_together_167 : decode cX11_together 167 = .ok (.iconst 2, 1) := by decide +kernel
theorem dX11_together_168 : decode cX11_together 168 = .ok (.iload_n 1, 1) := by decide +kernel
theorem dX11_together_169 : decode cX11_together 169 = .ok (.imul, 1) := by decide +kernel
theorem dX11_together_170 : decode cX11_together 170 = .ok (.iconst 1, 1) := by decide +kernel
theorem dX11_together_171 : decode cX11_together 171 = .ok (.iadd, 1) := by decide +kernel
theorem dX11_together_172 : decode cX11_together 172 = .ok (.iconst 2, 1) := by decide +kernel
theorem dX11_together_173 : decode cX11_together 173 = .ok (.iload 4, 2) := by decide +kernel
theorem dX11_together_175 : decode cX11_together 175 = .ok (.imul, 1) := by decide +kernel
theorem dX11_together_176 : decode cX11_together 176 = .ok (.iadd, 1) := by decide +kernel
theorem dX11_together_177 : decode cX11_together 177 = .ok (.baload, 1) := by decide +kernel
theorem dX11_together_178 : decode cX11_together 178 = .ok (.aload_n 0, 1) := by decide +kernel
theorem dX11_together_179 : decode cX11_together 179 = .ok (.getfield 32, 3) := by decide +kernel
theorem dX11_together_182 : decode cX11_together 182 = .ok (.iconst 2, 1) := by decide +kernel
theorem dX11_together_183 : decode cX11_together 183 = .ok (.iload_n 1, 1) := by decide +kernel
theorem dX11_together_184 : decode cX11_together 184 = .ok (.imul, 1) := by decide +kernel
theorem dX11_together_185 : decode cX11_together 185 = .ok (.iconst 2, 1) := by decide +kernel
theorem dX11_together_186 : decode cX11_together 186 = .ok (.iadd, 1) := by decide +kernel
theorem dX11_together_187 : decode cX11_together 187 = .ok (.iconst 2, 1) := by decide +kernel
theorem dX11_together_188 : decode cX11_together 188 = .ok (.iload 4, 2) := by decide +kernel
theorem dX11_together_190 : decode cX11_together 190 = .ok (.imul, 1) := by decide +kernel
theorem dX11_together_191 : decode cX11_together 191 = .ok (.iadd, 1) := by decide +kernel
theorem dX11_together_192 : decode cX11_together 192 = .ok (.baload, 1) := by decide +kernel
theorem dX11_together_193 : decode cX11_together 193 = .ok (.iload_n 1, 1) := by decide +kernel
theorem dX11_together_194 : decode cX11_together 194 = .ok (.invokevirtual 449, 3) := by decide +kernel
theorem dX11_together_197 : decode cX11_together 197 = .ok (.iinc 4 1, 3) := by decide +kernel
theorem dX11_together_200 : decode cX11_together 200 = .ok (.goto (-44), 3) := by decide +kernel
theorem dX11_together_203 : decode cX11_together 203 = .ok (.iconst 0, 1) := by decide +kernel
theorem dX11_together_204 : decode cX11_together 204 = .ok (.istore 4, 2) := by decide +kernel
theorem dX11_together_206 : decode cX11_together 206 = .ok (.iload 4, 2) := by decide +kernel
theorem dX11_together_208 : decode cX11_together 208 = .ok (.iload_n 1, 1) := by decide +kernel
theorem dX11_together_209 : decode cX11_together 209 = .ok (.if_icmp .ge 69, 3) := by decide +kernel
theorem dX11_together_212 : decode cX11_together 212 = .ok (.aload_n 0, 1) := by decide +kernel
theorem dX11_together_213 : decode cX11_together 213 = .ok (.getfield 126, 3) := by decide +kernel
theorem dX11_together_216 : decode cX11_together 216 = .ok (.aload_n 0, 1) := by decide +kernel
theorem dX11_together_217 : decode cX11_together 217 = .ok (.getfield 123, 3) := by decide +kernel
theorem dX11_together_220 : decode cX11_together 220 = .ok (.iload 4, 2) := by decide +kernel
theorem dX11_together_222 : decode cX11_together 222 = .ok (.iaload, 1) := by decide +kernel
theorem dX11_together_223 : decode cX11_together 223 = .ok (.aload_n 0, 1) := by decide +kernel
theorem dX11_together_224 : decode cX11_together 224 = .ok (.getfield 126, 3) := by decide +kernel
theorem dX11_together_227 : decode cX11_together 227 = .ok (.aload_n 0, 1) := by decide +kernel
theorem dX11_together_228 : decode cX11_together 228 = .ok (.getfield 123, 3) := by decide +kernel
theorem dX11_together_231 : decode cX11_together 231 = .ok (.iload 4, 2) := by decide +kernel
theorem dX11_together_233 : decode cX11_together 233 = .ok (.iaload, 1) := by decide +kernel
theorem dX11_together_234 : decode cX11_together 234 = .ok (.iaload, 1) := by decide +kernel
theorem dX11_together_235 : decode cX11_together 235 = .ok (.aload_n 0, 1) := by decide +kernel
theorem dX11_together_236 : decode cX11_together 236 = .ok (.getfield 32, 3) := by decide +kernel
theorem dX11_together_239 : decode cX11_together 239 = .ok (.iconst 2, 1) := by decide +kernel
theorem dX11_together_240 : decode cX11_together 240 = .ok (.iload 4, 2) := by decide +kernel
theorem dX11_together_242 : decode cX11_together 242 = .ok (.imul, 1) := by decide +kernel
theorem dX11_together_243 : decode cX11_together 243 = .ok (.baload, 1) := by decide +kernel
theorem dX11_together_244 : decode cX11_together 244 = .ok (.sipush 255, 3) := by decide +kernel
theorem dX11_together_247 : decode cX11_together 247 = .ok (.iand, 1) := by decide +kernel
theorem dX11_together_248 : decode cX11_together 248 = .ok (.sipush 256, 3) := by decide +kernel
theorem dX11_together_251 : decode cX11_together 251 = .ok (.imul, 1) := by decide +kernel
theorem dX11_together_252 : decode cX11_together 252 = .ok (.aload_n 0, 1) := by decide +kernel
theorem dX11_together_253 : decode cX11_together 253 = .ok (.getfield 32, 3) := by decide +kernel
theorem dX11_together_256 : decode cX11_together 256 = .ok (.iconst 2, 1) := by decide +kernel
theorem dX11_together_257 : decode cX11_together 257 = .ok (.iload 4, 2) := by decide +kernel
theorem dX11_together_259 : decode cX11_together 259 = .ok (.imul, 1) := by decide +kernel
theorem dX11_together_260 : decode cX11_together 260 = .ok (.iconst 1, 1) := by decide +kernel
theorem dX11_together_261 : decode cX11_together 261 = .ok (.iadd, 1) := by decide +kernel
theorem dX11_together_262 : decode cX11_together 262 = .ok (.baload, 1) := by decide +kernel
theorem dX11_together_263 : decode cX11_together 263 = .ok (.sipush 255, 3) := by decide +kernel
theorem dX11_together_266 : decode cX11_together 266 = .ok (.iand, 1) := by decide +kernel
theorem dX11_together_267 : decode cX11_together 267 = .ok (.iadd, 1) := by decide +kernel
theorem dX11_together_268 : decode cX11_together 268 = .ok (.invokestatic 416, 3) := by decide +kernel
theorem dX11_together_271 : decode cX11_together 271 = .ok (.iastore, 1) := by decide +kernel
theorem dX11_together_272 : decode cX11_together 272 = .ok (.iinc 4 1, 3) := by decide +kernel
theorem dX11_together_275 : decode cX11_together 275 = .ok (.goto (-69), 3) := by decide +kernel
theorem dX11_together_278 : decode cX11_together 278 = .ok (.iconst 0, 1) := by decide +kernel
theorem dX11_together_279 : decode cX11_together 279 = .ok (.istore 4, 2) := by decide +kernel
theorem dX11_together_281 : decode cX11_together 281 = .ok (.iconst 0, 1) := by decide +kernel
theorem dX11_together_282 : decode cX11_together 282 = .ok (.istore 5, 2) := by decide +kernel
theorem dX11_together_284 : decode cX11_together 284 = .ok (.iconst 0, 1) := by decide +kernel
theorem dX11_together_285 : decode cX11_together 285 = .ok (.istore 6, 2) := by decide +kernel
theorem dX11_together_287 : decode cX11_together 287 = .ok (.iconst 0, 1) := by decide +kernel
theorem dX11_together_288 : decode cX11_together 288 = .ok (.istore 7, 2) := by decide +kernel
theorem dX11_together_290 : decode cX11_together 290 = .ok (.iload 7, 2) := by decide +kernel
theorem dX11_together_292 : decode cX11_together 292 = .ok (.iload_n 1, 1) := by decide +kernel
theorem dX11_together_293 : decode cX11_together 293 = .ok (.if_icmp .ge 53, 3) := by decide +kernel
theorem dX11_together_296 : decode cX11_together 296 = .ok (.aload_n 0, 1) := by decide +kernel
theorem dX11_together_297 : decode cX11_together 297 = .ok (.getfield 123, 3) := by decide +kernel
theorem dX11_together_300 : decode cX11_together 300 = .ok (.iload 7, 2) := by decide +kernel
theorem dX11_together_302 : decode cX11_together 302 = .ok (.iaload, 1) := by decide +kernel
theorem dX11_together_303 : decode cX11_together 303 = .ok (.iload 7, 2) := by decide +kernel
theorem dX11_together_305 : decode cX11_together 305 = .ok (.if_icmp .ne 9, 3) := by decide +kernel
theorem dX11_together_308 : decode cX11_together 308 = .ok (.iload 5, 2) := by decide +kernel
theorem dX11_together_310 : decode cX11_together 310 = .ok (.iconst 1, 1) := by decide +kernel
theorem dX11_together_311 : decode cX11_together 311 = .ok (.iadd, 1) := by decide +kernel
theorem dX11_together_312 : decode cX11_together 312 = .ok (.istore 5, 2) := by decide +kernel
theorem dX11_together_314 : decode cX11_together 314 = .ok (.iload 4, 2) := by decide +kernel
theorem dX11_together_316 : decode cX11_together 316 = .ok (.aload_n 0, 1) := by decide +kernel
theorem dX11_together_317 : decode cX11_together 317 = .ok (.getfield 126, 3) := by decide +kernel
theorem dX11_together_320 : decode cX11_together 320 = .ok (.iload 7, 2) := by decide +kernel
theorem dX11_together_322 : decode cX11_together 322 = .ok (.iaload, 1) := by decide +kernel
theorem dX11_together_323 : decode cX11_together 323 = .ok (.iadd, 1) := by decide +kernel
theorem dX11_together_324 : decode cX11_together 324 = .ok (.istore 4, 2) := by decide +kernel
theorem dX11_together_326 : decode cX11_together 326 = .ok (.iload 6, 2) := by decide +kernel
theorem dX11_together_328 : decode cX11_together 328 = .ok (.aload_n 0, 1) := by decide +kernel
theorem dX11_together_329 : decode cX11_together 329 = .ok (.getfield 126, 3) := by decide +kernel
theorem dX11_together_332 : decode cX11_together 332 = .ok (.iload 7, 2) := by decide +kernel
theorem dX11_together_334 : decode cX11_together 334 = .ok (.iaload, 1) := by decide +kernel
theorem dX11_together_335 : decode cX11_together 335 = .ok (.invokestatic 416, 3) := by decide +kernel
theorem dX11_together_338 : decode cX11_together 338 = .ok (.istore 6, 2) := by decide +kernel
theorem dX11_together_340 : decode cX11_together 340 = .ok (.iinc 7 1, 3) := by decide +kernel
theorem dX11_together_343 : decode cX11_together 343 = .ok (.goto (-53), 3) := by decide +kernel
theorem dX11_together_346 : decode cX11_together 346 = .ok (.iload_n 2, 1) := by decide +kernel
theorem dX11_together_347 : decode cX11_together 347 = .ok (.ifCond .ne 8, 3) := by decide +kernel
theorem dX11_together_350 : decode cX11_together 350 = .ok (.iload 4, 2) := by decide +kernel
theorem dX11_together_352 : decode cX11_together 352 = .ok (.goto 15, 3) := by decide +kernel
theorem dX11_together_355 : decode cX11_together 355 = .ok (.iload_n 2, 1) := by decide +kernel
theorem dX11_together_356 : decode cX11_together 356 = .ok (.iconst 1, 1) := by decide +kernel
theorem dX11_together_357 : decode cX11_together 357 = .ok (.if_icmp .ne 8, 3) := by decide +kernel
theorem dX11_together_360 : decode cX11_together 360 = .ok (.iload 5, 2) := by decide +kernel
theorem dX11_together_362 : decode cX11_together 362 = .ok (.goto 5, 3) := by decide +kernel
theorem dX11_together_365 : decode cX11_together 365 = .ok (.iload 6, 2) := by decide +kernel
theorem dX11_together_367 : decode cX11_together 367 = .ok (.ireturn, 1) := by decide +kernel
theorem dX11_undo_0 : decode cX11_undo 0 = .ok (.aload_n 0, 1) := by decide +kernel
theorem dX11_undo_1 : decode cX11_undo 1 = .ok (.getfield 266, 3) := by decide +kernel
theorem dX11_undo_4 : decode cX11_undo 4 = .ok (.ifCond .ne 5, 3) := by decide +kernel
theorem dX11_undo_7 : decode cX11_undo 7 = .ok (.iconst 0, 1) := by decide +kernel
theorem dX11_undo_8 : decode cX11_undo 8 = .ok (.ireturn, 1) := by decide +kernel
theorem dX11_undo_9 : decode cX11_undo 9 = .ok (.aload_n 0, 1) := by decide +kernel
theorem dX11_undo_10 : decode cX11_undo 10 = .ok (.getfield 16, 3) := by decide +kernel
theorem dX11_undo_13 : decode cX11_undo 13 = .ok (.aload_n 0, 1) := by decide +kernel
theorem dX11_undo_14 : decode cX11_undo 14 = .ok (.getfield 7, 3) := by decide +kernel
theorem dX11_undo_17 : decode cX11_undo 17 = .ok (.invokestatic 403, 3) := by decide +kernel
theorem dX11_undo_20 : decode cX11_undo 20 = .ok (.aload_n 0, 1) := by decide +kernel
theorem dX11_undo_21 : decode cX11_undo 21 = .ok (.getfield 129, 3) := by decide +kernel
theorem dX11_undo_24 : decode cX11_undo 24 = .ok (.aload_n 0, 1) := by decide +kernel
theorem dX11_undo_25 : decode cX11_undo 25 = .ok (.getfield 132, 3) := by decide +kernel
theorem dX11_undo_28 : decode cX11_undo 28 = .ok (.aload_n 0, 1) := by decide +kernel
theorem dX11_undo_29 : decode cX11_undo 29 = .ok (.getfield 25, 3) := by decide +kernel
theorem dX11_undo_32 : decode cX11_undo 32 = .ok (.aload_n 0, 1) := by decide +kernel
theorem dX11_undo_33 : decode cX11_undo 33 = .ok (.getfield 28, 3) := by decide +kernel
theorem dX11_undo_36 : decode cX11_undo 36 = .ok (.invokestatic 453, 3) := by decide +kernel
theorem dX11_undo_39 : decode cX11_undo 39 = .ok (.iconst 1, 1) := by decide +kernel
theorem dX11_undo_40 : decode cX11_undo 40 = .ok (.ireturn, 1) := by decide +kernel
theorem dX11_walk_0 : decode cX11_walk 0 = .ok (.iload_n 1, 1) := by decide +kernel
theorem dX11_walk_1 : decode cX11_walk 1 = .ok (.iconst 2, 1) := by decide +kernel
theorem dX11_walk_2 : decode cX11_walk 2 = .ok (.invokestatic 139, 3) := by decide +kernel
theorem dX11_walk_5 : decode cX11_walk 5 = .ok (.ifCond .eq 21, 3) := by decide +kernel
theorem dX11_walk_8 : decode cX11_walk 8 = .ok (.iload_n 2, 1) := by decide +kernel
theorem dX11_walk_9 : decode cX11_walk 9 = .ok (.iconst 1, 1) := by decide +kernel
theorem dX11_walk_10 : decode cX11_walk 10 = .ok (.bipush 80, 2) := by decide +kernel
theorem dX11_walk_12 : decode cX11_walk 12 = .ok (.invokestatic 150, 3) := by decide +kernel
theorem dX11_walk_15 : decode cX11_walk 15 = .ok (.ifCond .eq 11, 3) := by decide +kernel
theorem dX11_walk_18 : decode cX11_walk 18 = .ok (.iload_n 2, 1) := by decide +kernel
theorem dX11_walk_19 : decode cX11_walk 19 = .ok (.aload_n 0, 1) := by decide +kernel
theorem dX11_walk_20 : decode cX11_walk 20 = .ok (.getfield 164, 3) := by decide +kernel
theorem dX11_walk_23 : decode cX11_walk 23 = .ok (.if_icmp .le 5, 3) := by decide +kernel
theorem dX11_walk_26 : decode cX11_walk 26 = .ok (.iconst (-1), 1) := by decide +kernel
theorem dX11_walk_27 : decode cX11_walk 27 = .ok (.ireturn, 1) := by decide +kernel
theorem dX11_walk_28 : decode cX11_walk 28 = .ok (.aload_n 0, 1) := by decide +kernel
theorem dX11_walk_29 : decode cX11_walk 29 = .ok (.iconst 0, 1) := by decide +kernel
theorem dX11_walk_30 : decode cX11_walk 30 = .ok (.putfield 171, 3) := by decide +kernel
theorem dX11_walk_33 : decode cX11_walk 33 = .ok (.aload_n 0, 1) := by decide +kernel
theorem dX11_walk_34 : decode cX11_walk 34 = .ok (.iload_n 2, 1) := by decide +kernel
theorem dX11_walk_35 : decode cX11_walk 35 = .ok (.putfield 174, 3) := by decide +kernel
theorem dX11_walk_38 : decode cX11_walk 38 = .ok (.aload_n 0, 1) := by decide +kernel
theorem dX11_walk_39 : decode cX11_walk 39 = .ok (.iconst 0, 1) := by decide +kernel
theorem dX11_walk_40 : decode cX11_walk 40 = .ok (.putfield 270, 3) := by decide +kernel
theorem dX11_walk_43 : decode cX11_walk 43 = .ok (.aload_n 0, 1) := by decide +kernel
theorem dX11_walk_44 : decode cX11_walk 44 = .ok (.iconst 0, 1) := by decide +kernel
theorem dX11_walk_45 : decode cX11_walk 45 = .ok (.putfield 282, 3) := by decide +kernel
theorem dX11_walk_48 : decode cX11_walk 48 = .ok (.aload_n 0, 1) := by decide +kernel
theorem dX11_walk_49 : decode cX11_walk 49 = .ok (.invokevirtual 291, 3) := by decide +kernel
theorem dX11_walk_52 : decode cX11_walk 52 = .ok (.istore_n 3, 1) := by decide +kernel
theorem dX11_walk_53 : decode cX11_walk 53 = .ok (.iload_n 3, 1) := by decide +kernel
theorem dX11_walk_54 : decode cX11_walk 54 = .ok (.ifCond .eq 29, 3) := by decide +kernel
theorem dX11_walk_57 : decode cX11_walk 57 = .ok (.aload_n 0, 1) := by decide +kernel
theorem dX11_walk_58 : decode cX11_walk 58 = .ok (.getfield 171, 3) := by decide +kernel
theorem dX11_walk_61 : decode cX11_walk 61 = .ok (.aload_n 0, 1) := by decide +kernel
theorem dX11_walk_62 : decode cX11_walk 62 = .ok (.getfield 174, 3) := by decide +kernel
theorem dX11_walk_65 : decode cX11_walk 65 = .ok (.if_icmp .lt 10, 3) := by decide +kernel
theorem dX11_walk_68 : decode cX11_walk 68 = .ok (.aload_n 0, 1) := by decide +kernel
theorem dX11_walk_69 : decode cX11_walk 69 = .ok (.getfield 282, 3) := by decide +kernel
theorem dX11_walk_72 : decode cX11_walk 72 = .ok (.ifCond .le 11, 3) := by decide +kernel
theorem dX11_walk_75 : decode cX11_walk 75 = .ok (.aload_n 0, 1) := by decide +kernel
theorem dX11_walk_76 : decode cX11_walk 76 = .ok (.invokevirtual 291, 3) := by decide +kernel
theorem dX11_walk_79 : decode cX11_walk 79 = .ok (.istore_n 3, 1) := by decide +kernel
theorem dX11_walk_80 : decode cX11_walk 80 = .ok (.goto (-27), 3) := by decide +kernel
theorem dX11_walk_83 : decode cX11_walk 83 = .ok (.aload_n 0, 1) := by decide +kernel
theorem dX11_walk_84 : decode cX11_walk 84 = .ok (.iconst 0, 1) := by decide +kernel
theorem dX11_walk_85 : decode cX11_walk 85 = .ok (.putfield 164, 3) := by decide +kernel
theorem dX11_walk_88 : decode cX11_walk 88 = .ok (.iload_n 3, 1) := by decide +kernel
theorem dX11_walk_89 : decode cX11_walk 89 = .ok (.ifCond .ne 8, 3) := by decide +kernel
theorem dX11_walk_92 : decode cX11_walk 92 = .ok (.aload_n 0, 1) := by decide +kernel
theorem dX11_walk_93 : decode cX11_walk 93 = .ok (.getfield 181, 3) := by decide +kernel
theorem dX11_walk_96 : decode cX11_walk 96 = .ok (.ireturn, 1) := by decide +kernel
theorem dX11_walk_97 : decode cX11_walk 97 = .ok (.aload_n 0, 1) := by decide +kernel
theorem dX11_walk_98 : decode cX11_walk 98 = .ok (.getfield 25, 3) := by decide +kernel
theorem dX11_walk_101 : decode cX11_walk 101 = .ok (.iload_n 1, 1) := by decide +kernel
theorem dX11_walk_102 : decode cX11_walk 102 = .ok (.aload_n 0, 1) := by decide +kernel
theorem dX11_walk_103 : decode cX11_walk 103 = .ok (.getfield 270, 3) := by decide +kernel
theorem dX11_walk_106 : decode cX11_walk 106 = .ok (.iastore, 1) := by decide +kernel
theorem dX11_walk_107 : decode cX11_walk 107 = .ok (.aload_n 0, 1) := by decide +kernel
theorem dX11_walk_108 : decode cX11_walk 108 = .ok (.getfield 7, 3) := by decide +kernel
theorem dX11_walk_111 : decode cX11_walk 111 = .ok (.iconst 2, 1) := by decide +kernel
theorem dX11_walk_112 : decode cX11_walk 112 = .ok (.iload_n 1, 1) := by decide +kernel
theorem dX11_walk_113 : decode cX11_walk 113 = .ok (.iadd, 1) := by decide +kernel
theorem dX11_walk_114 : decode cX11_walk 114 = .ok (.iconst 0, 1) := by decide +kernel
theorem dX11_walk_115 : decode cX11_walk 115 = .ok (.iastore, 1) := by decide +kernel
theorem dX11_walk_116 : decode cX11_walk 116 = .ok (.iconst 0, 1) := by decide +kernel
theorem dX11_walk_117 : decode cX11_walk 117 = .ok (.istore 4, 2) := by decide +kernel
theorem dX11_walk_119 : decode cX11_walk 119 = .ok (.iload 4, 2) := by decide +kernel
theorem dX11_walk_121 : decode cX11_walk 121 = .ok (.aload_n 0, 1) := by decide +kernel
theorem dX11_walk_122 : decode cX11_walk 122 = .ok (.getfield 270, 3) := by decide +kernel
theorem dX11_walk_125 : decode cX11_walk 125 = .ok (.if_icmp .ge 28, 3) := by decide +kernel
theorem dX11_walk_128 : decode cX11_walk 128 = .ok (.aload_n 0, 1) := by decide +kernel
theorem dX11_walk_129 : decode cX11_walk 129 = .ok (.getfield 28, 3) := by decide +kernel
theorem dX11_walk_132 : decode cX11_walk 132 = .ok (.bipush 60, 2) := by decide +kernel
theorem dX11_walk_134 : decode cX11_walk 134 = .ok (.iload_n 1, 1) := by decide +kernel
theorem dX11_walk_135 : decode cX11_walk 135 = .ok (.imul, 1) := by decide +kernel
theorem dX11_walk_136 : decode cX11_walk 136 = .ok (.iload 4, 2) := by decide +kernel
theorem dX11_walk_138 : decode cX11_walk 138 = .ok (.iadd, 1) := by decide +kernel
theorem dX11_walk_139 : decode cX11_walk 139 = .ok (.aload_n 0, 1) := by decide +kernel
theorem dX11_walk_140 : decode cX11_walk 140 = .ok (.getfield 71, 3) := by decide +kernel
theorem dX11_walk_143 : decode cX11_walk 143 = .ok (.iload 4, 2) := by decide +kernel
theorem dX11_walk_145 : decode cX11_walk 145 = .ok (.baload, 1) := by decide +kernel
theorem dX11_walk_146 : decode cX11_walk 146 = .ok (.bastore, 1) := by decide +kernel
theorem dX11_walk_147 : decode cX11_walk 147 = .ok (.iinc 4 1, 3) := by decide +kernel
theorem dX11_walk_150 : decode cX11_walk 150 = .ok (.goto (-31), 3) := by decide +kernel
theorem dX11_walk_153 : decode cX11_walk 153 = .ok (.aload_n 0, 1) := by decide +kernel
theorem dX11_walk_154 : decode cX11_walk 154 = .ok (.getfield 270, 3) := by decide +kernel
theorem dX11_walk_157 : decode cX11_walk 157 = .ok (.ireturn, 1) := by decide +kernel
