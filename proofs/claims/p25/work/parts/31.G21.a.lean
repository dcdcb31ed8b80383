theorem cf_X11_jumps : xCF yX11_jumps cX11_jumps 2 none 1 := ⟨xq 1532 (by decide +kernel) rfl, xq 179 (by decide +kernel) rfl, by decide +kernel⟩
theorem cf_X11_lands : xCF yX11_lands cX11_lands 3 none 1 := ⟨xq 1528 (by decide +kernel) rfl, xq 179 (by decide +kernel) rfl, by decide +kernel⟩
theorem cf_X11_readsCompared : xCF yX11_readsCompared cX11_readsCompared 2 (some .boolean) 0 := ⟨xq 1520 (by decide +kernel) rfl, xq 179 (by decide +kernel) rfl, by decide +kernel⟩
theorem wq126 : Cond.selects yX11_readsCompared.cls yX11_readsCompared yX11_readsCompared ∈ xTB := xq 126 (by decide +kernel) rfl
theorem wq128 : Cond.selects yX11_lands.cls yX11_lands yX11_lands ∈ xTB := xq 128 (by decide +kernel) rfl
theorem wq129 : Cond.selects yX11_jumps.cls yX11_jumps yX11_jumps ∈ xTB := xq 129 (by decide +kernel) rfl
theorem wq1517 : Cond.methodLink "ShadowCourtModel" (239) yX11_readsCompared ∈ xTB := xq 1517 (by decide +kernel) rfl
theorem wq1519 : Cond.instanceMethod yX11_readsCompared ∈ xTB := xq 1519 (by decide +kernel) rfl
theorem wq1525 : Cond.methodLink "ShadowCourtModel" (242) yX11_lands ∈ xTB := xq 1525 (by decide +kernel) rfl
theorem wq1527 : Cond.instanceMethod yX11_lands ∈ xTB := xq 1527 (by decide +kernel) rfl
theorem wq1529 : Cond.methodLink "ShadowCourtModel" (245) yX11_jumps ∈ xTB := xq 1529 (by decide +kernel) rfl
theorem wq1531 : Cond.instanceMethod yX11_jumps ∈ xTB := xq 1531 (by decide +kernel) rfl
theorem dX11_readsCondition_0 : decode cX11_readsCondition 0 = .ok (.aload_n 0, 1) := by decide +kernel
theorem dX11_readsCondition_1 : decode cX11_readsCondition 1 = .ok (.invokevirtual 177, 3) := by decide +kernel
theorem dX11_readsCondition_4 : decode cX11_readsCondition 4 = .ok (.bipush 40, 2) := by decide +kernel
theorem dX11_readsCondition_6 : decode cX11_readsCondition 6 = .ok (.if_icmp .eq 13, 3) := by decide +kernel
theorem dX11_readsCondition_9 : decode cX11_readsCondition 9 = .ok (.aload_n 0, 1) := by decide +kernel
theorem dX11_readsCondition_10 : decode cX11_readsCondition 10 = .ok (.iconst 1, 1) := by decide +kernel
theorem dX11_readsCondition_11 : decode cX11_readsCondition 11 = .ok (.aload_n 0, 1) := by decide +kernel
theorem dX11_readsCondition_12 : decode cX11_readsCondition 12 = .ok (.getfield 171, 3) := by decide +kernel
theorem dX11_readsCondition_15 : decode cX11_readsCondition 15 = .ok (.invokevirtual 184, 3) := by decide +kernel
theorem dX11_readsCondition_18 : decode cX11_readsCondition 18 = .ok (.ireturn, 1) := by decide +kernel
theorem dX11_readsCondition_19 : decode cX11_readsCondition 19 = .ok (.aload_n 0, 1) := by decide +kernel
theorem dX11_readsCondition_20 : decode cX11_readsCondition 20 = .ok (.iconst 0, 1) := by decide +kernel
theorem dX11_readsCondition_21 : decode cX11_readsCondition 21 = .ok (.putfield 198, 3) := by decide +kernel
theorem dX11_readsCondition_24 : decode cX11_readsCondition 24 = .ok (.aload_n 0, 1) := by decide +kernel
theorem dX11_readsCondition_25 : decode cX11_readsCondition 25 = .ok (.iconst 0, 1) := by decide +kernel
theorem dX11_readsCondition_26 : decode cX11_readsCondition 26 = .ok (.putfield 201, 3) := by decide +kernel
theorem dX11_readsCondition_29 : decode cX11_readsCondition 29 = .ok (.aload_n 0, 1) := by decide +kernel
theorem dX11_readsCondition_30 : decode cX11_readsCondition 30 = .ok (.bipush 13, 2) := by decide +kernel
theorem dX11_readsCondition_32 : decode cX11_readsCondition 32 = .ok (.invokevirtual 211, 3) := by decide +kernel
theorem dX11_readsCondition_35 : decode cX11_readsCondition 35 = .ok (.ifCond .ne 5, 3) := by decide +kernel
theorem dX11_readsCondition_38 : decode cX11_readsCondition 38 = .ok (.iconst 0, 1) := by decide +kernel
theorem dX11_readsCondition_39 : decode cX11_readsCondition 39 = .ok (.ireturn, 1) := by decide +kernel
theorem dX11_readsCondition_40 : decode cX11_readsCondition 40 = .ok (.aload_n 0, 1) := by decide +kernel
theorem dX11_readsCondition_41 : decode cX11_readsCondition 41 = .ok (.invokevirtual 177, 3) := by decide +kernel
theorem dX11_readsCondition_44 : decode cX11_readsCondition 44 = .ok (.bipush 33, 2) := by decide +kernel
theorem dX11_readsCondition_46 : decode cX11_readsCondition 46 = .ok (.if_icmp .eq 12, 3) := by decide +kernel
theorem dX11_readsCondition_49 : decode cX11_readsCondition 49 = .ok (.aload_n 0, 1) := by decide +kernel
theorem dX11_readsCondition_50 : decode cX11_readsCondition 50 = .ok (.invokevirtual 177, 3) := by decide +kernel
theorem dX11_readsCondition_53 : decode cX11_readsCondition 53 = .ok (.bipush 40, 2) := by decide +kernel
theorem dX11_readsCondition_55 : decode cX11_readsCondition 55 = .ok (.if_icmp .ne 28, 3) := by decide +kernel
theorem dX11_readsCondition_58 : decode cX11_readsCondition 58 = .ok (.aload_n 0, 1) := by decide +kernel
theorem dX11_readsCondition_59 : decode cX11_readsCondition 59 = .ok (.aload_n 0, 1) := by decide +kernel
theorem dX11_readsCondition_60 : decode cX11_readsCondition 60 = .ok (.invokevirtual 177, 3) := by decide +kernel
theorem dX11_readsCondition_63 : decode cX11_readsCondition 63 = .ok (.bipush 33, 2) := by decide +kernel
theorem dX11_readsCondition_65 : decode cX11_readsCondition 65 = .ok (.if_icmp .ne 8, 3) := by decide +kernel
theorem dX11_readsCondition_68 : decode cX11_readsCondition 68 = .ok (.bipush 10, 2) := by decide +kernel
theorem dX11_readsCondition_70 : decode cX11_readsCondition 70 = .ok (.goto 5, 3) := by decide +kernel
theorem dX11_readsCondition_73 : decode cX11_readsCondition 73 = .ok (.bipush 13, 2) := by decide +kernel
theorem dX11_readsCondition_75 : decode cX11_readsCondition 75 = .ok (.invokevirtual 211, 3) := by decide +kernel
theorem dX11_readsCondition_78 : decode cX11_readsCondition 78 = .ok (.ifCond .ne (-38), 3) := by decide +kernel
theorem dX11_readsCondition_81 : decode cX11_readsCondition 81 = .ok (.iconst 0, 1) := by decide +kernel
theorem dX11_readsCondition_82 : decode cX11_readsCondition 82 = .ok (.ireturn, 1) := by decide +kernel
theorem dX11_readsCondition_83 : decode cX11_readsCondition 83 = .ok (.aload_n 0, 1) := by decide +kernel
theorem dX11_readsCondition_84 : decode cX11_readsCondition 84 = .ok (.invokevirtual 239, 3) := by decide +kernel
theorem dX11_readsCondition_87 : decode cX11_readsCondition 87 = .ok (.ifCond .ne 5, 3) := by decide +kernel
theorem dX11_readsCondition_90 : decode cX11_readsCondition 90 = .ok (.iconst 0, 1) := by decide +kernel
theorem dX11_readsCondition_91 : decode cX11_readsCondition 91 = .ok (.ireturn, 1) := by decide +kernel
theorem dX11_readsCondition_92 : decode cX11_readsCondition 92 = .ok (.aload_n 0, 1) := by decide +kernel
theorem dX11_readsCondition_93 : decode cX11_readsCondition 93 = .ok (.invokevirtual 177, 3) := by decide +kernel
theorem dX11_readsCondition_96 : decode cX11_readsCondition 96 = .ok (.bipush 41, 2) := by decide +kernel
theorem dX11_readsCondition_98 : decode cX11_readsCondition 98 = .ok (.if_icmp .ne 54, 3) := by decide +kernel
theorem dX11_readsCondition_101 : decode cX11_readsCondition 101 = .ok (.aload_n 0, 1) := by decide +kernel
theorem dX11_readsCondition_102 : decode cX11_readsCondition 102 = .ok (.iconst 1, 1) := by decide +kernel
theorem dX11_readsCondition_103 : decode cX11_readsCondition 103 = .ok (.invokevirtual 242, 3) := by decide +kernel
theorem dX11_readsCondition_106 : decode cX11_readsCondition 106 = .ok (.aload_n 0, 1) := by decide +kernel
theorem dX11_readsCondition_107 : decode cX11_readsCondition 107 = .ok (.aload_n 0, 1) := by decide +kernel
theorem dX11_readsCondition_108 : decode cX11_readsCondition 108 = .ok (.getfield 201, 3) := by decide +kernel
theorem dX11_readsCondition_111 : decode cX11_readsCondition 111 = .ok (.iconst 1, 1) := by decide +kernel
theorem dX11_readsCondition_112 : decode cX11_readsCondition 112 = .ok (.isub, 1) := by decide +kernel
theorem dX11_readsCondition_113 : decode cX11_readsCondition 113 = .ok (.putfield 201, 3) := by decide +kernel
theorem dX11_readsCondition_116 : decode cX11_readsCondition 116 = .ok (.aload_n 0, 1) := by decide +kernel
theorem dX11_readsCondition_117 : decode cX11_readsCondition 117 = .ok (.aload_n 0, 1) := by decide +kernel
theorem dX11_readsCondition_118 : decode cX11_readsCondition 118 = .ok (.getfield 198, 3) := by decide +kernel
theorem dX11_readsCondition_121 : decode cX11_readsCondition 121 = .ok (.iconst 1, 1) := by decide +kernel
theorem dX11_readsCondition_122 : decode cX11_readsCondition 122 = .ok (.isub, 1) := by decide +kernel
theorem dX11_readsCondition_123 : decode cX11_readsCondition 123 = .ok (.putfield 198, 3) := by decide +kernel
theorem dX11_readsCondition_126 : decode cX11_readsCondition 126 = .ok (.aload_n 0, 1) := by decide +kernel
theorem dX11_readsCondition_127 : decode cX11_readsCondition 127 = .ok (.aload_n 0, 1) := by decide +kernel
theorem dX11_readsCondition_128 : decode cX11_readsCondition 128 = .ok (.getfield 171, 3) := by decide +kernel
theorem dX11_readsCondition_131 : decode cX11_readsCondition 131 = .ok (.iconst 1, 1) := by decide +kernel
theorem dX11_readsCondition_132 : decode cX11_readsCondition 132 = .ok (.iadd, 1) := by decide +kernel
theorem dX11_readsCondition_133 : decode cX11_readsCondition 133 = .ok (.putfield 171, 3) := by decide +kernel
theorem dX11_readsCondition_136 : decode cX11_readsCondition 136 = .ok (.aload_n 0, 1) := by decide +kernel
theorem dX11_readsCondition_137 : decode cX11_readsCondition 137 = .ok (.getfield 201, 3) := by decide +kernel
theorem dX11_readsCondition_140 : decode cX11_readsCondition 140 = .ok (.ifCond .ne 5, 3) := by decide +kernel
theorem dX11_readsCondition_143 : decode cX11_readsCondition 143 = .ok (.iconst 1, 1) := by decide +kernel
theorem dX11_readsCondition_144 : decode cX11_readsCondition 144 = .ok (.ireturn, 1) := by decide +kernel
theorem dX11_readsCondition_145 : decode cX11_readsCondition 145 = .ok (.aload_n 0, 1) := by decide +kernel
theorem dX11_readsCondition_146 : decode cX11_readsCondition 146 = .ok (.invokevirtual 236, 3) := by decide +kernel
theorem dX11_readsCondition_149 : decode cX11_readsCondition 149 = .ok (.goto (-57), 3) := by decide +kernel
theorem dX11_readsCondition_152 : decode cX11_readsCondition 152 = .ok (.aload_n 0, 1) := by decide +kernel
theorem dX11_readsCondition_153 : decode cX11_readsCondition 153 = .ok (.invokevirtual 177, 3) := by decide +kernel
theorem dX11_readsCondition_156 : decode cX11_readsCondition 156 = .ok (.bipush 38, 2) := by decide +kernel
theorem dX11_readsCondition_158 : decode cX11_readsCondition 158 = .ok (.if_icmp .eq 22, 3) := by decide +kernel
theorem dX11_readsCondition_161 : decode cX11_readsCondition 161 = .ok (.aload_n 0, 1) := by decide +kernel
theorem dX11_readsCondition_162 : decode cX11_readsCondition 162 = .ok (.invokevirtual 177, 3) := by decide +kernel
theorem dX11_readsCondition_165 : decode cX11_readsCondition 165 = .ok (.bipush 124, 2) := by decide +kernel
theorem dX11_readsCondition_167 : decode cX11_readsCondition 167 = .ok (.if_icmp .eq 13, 3) := by decide +kernel
theorem dX11_readsCondition_170 : decode cX11_readsCondition 170 = .ok (.aload_n 0, 1) := by decide +kernel
theorem dX11_readsCondition_171 : decode cX11_readsCondition 171 = .ok (.iconst 1, 1) := by decide +kernel
theorem dX11_readsCondition_172 : decode cX11_readsCondition 172 = .ok (.aload_n 0, 1) := by decide +kernel
theorem dX11_readsCondition_173 : decode cX11_readsCondition 173 = .ok (.getfield 171, 3) := by decide +kernel
theorem dX11_readsCondition_176 : decode cX11_readsCondition 176 = .ok (.invokevirtual 184, 3) := by decide +kernel
theorem dX11_readsCondition_179 : decode cX11_readsCondition 179 = .ok (.ireturn, 1) := by decide +kernel
theorem dX11_readsCondition_180 : decode cX11_readsCondition 180 = .ok (.aload_n 0, 1) := by decide +kernel
theorem dX11_readsCondition_181 : decode cX11_readsCondition 181 = .ok (.aload_n 0, 1) := by decide +kernel
theorem dX11_readsCondition_182 : decode cX11_readsCondition 182 = .ok (.invokevirtual 177, 3) := by decide +kernel
theorem dX11_readsCondition_185 : decode cX11_readsCondition 185 = .ok (.bipush 124, 2) := by decide +kernel
theorem dX11_readsCondition_187 : decode cX11_readsCondition 187 = .ok (.if_icmp .ne 7, 3) := by decide +kernel
theorem dX11_readsCondition_190 : decode cX11_readsCondition 190 = .ok (.iconst 1, 1) := by decide +kernel
theorem dX11_readsCondition_191 : decode cX11_readsCondition 191 = .ok (.goto 4, 3) := by decide +kernel
theorem dX11_readsCondition_194 : decode cX11_readsCondition 194 = .ok (.iconst 0, 1) := by decide +kernel
theorem dX11_readsCondition_195 : decode cX11_readsCondition 195 = .ok (.invokevirtual 242, 3) := by decide +kernel
theorem dX11_readsCondition_198 : decode cX11_readsCondition 198 = .ok (.aload_n 0, 1) := by decide +kernel
theorem dX11_readsCondition_199 : decode cX11_readsCondition 199 = .ok (.aload_n 0, 1) := by decide +kernel
theorem dX11_readsCondition_200 : decode cX11_readsCondition 200 = .ok (.invokevirtual 177, 3) := by decide +kernel
theorem dX11_readsCondition_203 : decode cX11_readsCondition 203 = .ok (.bipush 38, 2) := by decide +kernel
theorem dX11_readsCondition_205 : decode cX11_readsCondition 205 = .ok (.if_icmp .ne 8, 3) := by decide +kernel
theorem dX11_readsCondition_208 : decode cX11_readsCondition 208 = .ok (.bipush 11, 2) := by decide +kernel
theorem dX11_readsCondition_210 : decode cX11_readsCondition 210 = .ok (.goto 5, 3) := by decide +kernel
theorem dX11_readsCondition_213 : decode cX11_readsCondition 213 = .ok (.bipush 12, 2) := by decide +kernel
theorem dX11_readsCondition_215 : decode cX11_readsCondition 215 = .ok (.invokevirtual 245, 3) := by decide +kernel
theorem dX11_readsCondition_218 : decode cX11_readsCondition 218 = .ok (.goto (-178), 3) := by decide +kernel

