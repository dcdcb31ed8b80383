theorem cf_X11_areSpots : xCF yX11_areSpots cX11_areSpots 3 (some .boolean) 1 := ⟨xq 1733 (by decide +kernel) rfl, xq 179 (by decide +kernel) rfl, by decide +kernel⟩
theorem cf_X11_binds : xCF yX11_binds cX11_binds 7 none 3 := ⟨xq 1749 (by decide +kernel) rfl, xq 179 (by decide +kernel) rfl, by decide +kernel⟩
theorem cf_X11_failsAt : xCF yX11_failsAt cX11_failsAt 3 (some .int) 1 := ⟨xq 1737 (by decide +kernel) rfl, xq 179 (by decide +kernel) rfl, by decide +kernel⟩
theorem cf_X11_tapeNumber : xCF yX11_tapeNumber cX11_tapeNumber 4 (some .int) 1 := ⟨xq 1777 (by decide +kernel) rfl, xq 179 (by decide +kernel) rfl, by decide +kernel⟩
theorem wq161 : Cond.selects yX11_areSpots.cls yX11_areSpots yX11_areSpots ∈ xTB := xq 161 (by decide +kernel) rfl
theorem wq162 : Cond.selects yX11_failsAt.cls yX11_failsAt yX11_failsAt ∈ xTB := xq 162 (by decide +kernel) rfl
theorem wq163 : Cond.selects yX11_binds.cls yX11_binds yX11_binds ∈ xTB := xq 163 (by decide +kernel) rfl
theorem wq164 : Cond.selects yX11_tapeNumber.cls yX11_tapeNumber yX11_tapeNumber ∈ xTB := xq 164 (by decide +kernel) rfl
theorem wq1241 : Cond.fieldLink "ShadowCourtModel" (123) "ShadowCourtModel" "groupOf" "[I" ∈ xTB := xq 1241 (by decide +kernel) rfl
theorem wq1242 : Cond.fieldLink "ShadowCourtModel" (126) "ShadowCourtModel" "longOf" "[I" ∈ xTB := xq 1242 (by decide +kernel) rfl
theorem wq1730 : Cond.methodLink "ShadowCourtModel" (443) yX11_areSpots ∈ xTB := xq 1730 (by decide +kernel) rfl
theorem wq1732 : Cond.instanceMethod yX11_areSpots ∈ xTB := xq 1732 (by decide +kernel) rfl
theorem wq1734 : Cond.methodLink "ShadowCourtModel" (446) yX11_failsAt ∈ xTB := xq 1734 (by decide +kernel) rfl
theorem wq1736 : Cond.instanceMethod yX11_failsAt ∈ xTB := xq 1736 (by decide +kernel) rfl
theorem wq1746 : Cond.methodLink "ShadowCourtModel" (449) yX11_binds ∈ xTB := xq 1746 (by decide +kernel) rfl
theorem wq1748 : Cond.instanceMethod yX11_binds ∈ xTB := xq 1748 (by decide +kernel) rfl
theorem wq1774 : Cond.methodLink "ShadowCourtModel" (457) yX11_tapeNumber ∈ xTB := xq 1774 (by decide +kernel) rfl
theorem wq1776 : Cond.instanceMethod yX11_tapeNumber ∈ xTB := xq 1776 (by decide +kernel) rfl
theorem dX11_areSpots_0 : decode cX11_areSpots 0 = .ok (.iconst 0, 1) := by decide +kernel
theorem dX11_areSpots_1 : decode cX11_areSpots 1 = .ok (.istore_n 2, 1) := by decide +kernel
theorem dX11_areSpots_2 : decode cX11_areSpots 2 = .ok (.iload_n 2, 1) := by decide +kernel
theorem dX11_areSpots_3 : decode cX11_areSpots 3 = .ok (.iload_n 1, 1) := by decide +kernel
theorem dX11_areSpots_4 : decode cX11_areSpots 4 = .ok (.if_icmp .ge 39, 3) := by decide +kernel
theorem dX11_areSpots_7 : decode cX11_areSpots 7 = .ok (.aload_n 0, 1) := by decide +kernel
theorem dX11_areSpots_8 : decode cX11_areSpots 8 = .ok (.getfield 32, 3) := by decide +kernel
theorem dX11_areSpots_11 : decode cX11_areSpots 11 = .ok (.iload_n 2, 1) := by decide +kernel
theorem dX11_areSpots_12 : decode cX11_areSpots 12 = .ok (.baload, 1) := by decide +kernel
theorem dX11_areSpots_13 : decode cX11_areSpots 13 = .ok (.iconst 0, 1) := by decide +kernel
theorem dX11_areSpots_14 : decode cX11_areSpots 14 = .ok (.bipush 99, 2) := by decide +kernel
theorem dX11_areSpots_16 : decode cX11_areSpots 16 = .ok (.invokestatic 150, 3) := by decide +kernel
theorem dX11_areSpots_19 : decode cX11_areSpots 19 = .ok (.ifCond .eq 16, 3) := by decide +kernel
theorem dX11_areSpots_22 : decode cX11_areSpots 22 = .ok (.aload_n 0, 1) := by decide +kernel
theorem dX11_areSpots_23 : decode cX11_areSpots 23 = .ok (.aload_n 0, 1) := by decide +kernel
theorem dX11_areSpots_24 : decode cX11_areSpots 24 = .ok (.getfield 32, 3) := by decide +kernel
theorem dX11_areSpots_27 : decode cX11_areSpots 27 = .ok (.iload_n 2, 1) := by decide +kernel
theorem dX11_areSpots_28 : decode cX11_areSpots 28 = .ok (.baload, 1) := by decide +kernel
theorem dX11_areSpots_29 : decode cX11_areSpots 29 = .ok (.invokevirtual 263, 3) := by decide +kernel
theorem dX11_areSpots_32 : decode cX11_areSpots 32 = .ok (.ifCond .ne 5, 3) := by decide +kernel
theorem dX11_areSpots_35 : decode cX11_areSpots 35 = .ok (.iconst 0, 1) := by decide +kernel
theorem dX11_areSpots_36 : decode cX11_areSpots 36 = .ok (.ireturn, 1) := by decide +kernel
theorem dX11_areSpots_37 : decode cX11_areSpots 37 = .ok (.iinc 2 1, 3) := by decide +kernel
theorem dX11_areSpots_40 : decode cX11_areSpots 40 = .ok (.goto (-38), 3) := by decide +kernel
theorem dX11_areSpots_43 : decode cX11_areSpots 43 = .ok (.iconst 1, 1) := by decide +kernel
theorem dX11_areSpots_44 : decode cX11_areSpots 44 = .ok (.ireturn, 1) := by decide +kernel
theorem dX11_binds_0 : decode cX11_binds 0 = .ok (.aload_n 0, 1) := by decide +kernel
theorem dX11_binds_1 : decode cX11_binds 1 = .ok (.getfield 123, 3) := by decide +kernel
theorem dX11_binds_4 : decode cX11_binds 4 = .ok (.iload_n 1, 1) := by decide +kernel
theorem dX11_binds_5 : decode cX11_binds 5 = .ok (.iaload, 1) := by decide +kernel
theorem dX11_binds_6 : decode cX11_binds 6 = .ok (.aload_n 0, 1) := by decide +kernel
theorem dX11_binds_7 : decode cX11_binds 7 = .ok (.getfield 123, 3) := by decide +kernel
theorem dX11_binds_10 : decode cX11_binds 10 = .ok (.iload_n 2, 1) := by decide +kernel
theorem dX11_binds_11 : decode cX11_binds 11 = .ok (.iaload, 1) := by decide +kernel
theorem dX11_binds_12 : decode cX11_binds 12 = .ok (.invokestatic 362, 3) := by decide +kernel
theorem dX11_binds_15 : decode cX11_binds 15 = .ok (.istore 4, 2) := by decide +kernel
theorem dX11_binds_17 : decode cX11_binds 17 = .ok (.aload_n 0, 1) := by decide +kernel
theorem dX11_binds_18 : decode cX11_binds 18 = .ok (.getfield 123, 3) := by decide +kernel
theorem dX11_binds_21 : decode cX11_binds 21 = .ok (.iload_n 1, 1) := by decide +kernel
theorem dX11_binds_22 : decode cX11_binds 22 = .ok (.iaload, 1) := by decide +kernel
theorem dX11_binds_23 : decode cX11_binds 23 = .ok (.aload_n 0, 1) := by decide +kernel
theorem dX11_binds_24 : decode cX11_binds 24 = .ok (.getfield 123, 3) := by decide +kernel
theorem dX11_binds_27 : decode cX11_binds 27 = .ok (.iload_n 2, 1) := by decide +kernel
theorem dX11_binds_28 : decode cX11_binds 28 = .ok (.iaload, 1) := by decide +kernel
theorem dX11_binds_29 : decode cX11_binds 29 = .ok (.invokestatic 416, 3) := by decide +kernel
theorem dX11_binds_32 : decode cX11_binds 32 = .ok (.istore 5, 2) := by decide +kernel
theorem dX11_binds_34 : decode cX11_binds 34 = .ok (.iconst 0, 1) := by decide +kernel
theorem dX11_binds_35 : decode cX11_binds 35 = .ok (.istore 6, 2) := by decide +kernel
theorem dX11_binds_37 : decode cX11_binds 37 = .ok (.iload 6, 2) := by decide +kernel
theorem dX11_binds_39 : decode cX11_binds 39 = .ok (.iload_n 3, 1) := by decide +kernel
theorem dX11_binds_40 : decode cX11_binds 40 = .ok (.if_icmp .ge 30, 3) := by decide +kernel
theorem dX11_binds_43 : decode cX11_binds 43 = .ok (.aload_n 0, 1) := by decide +kernel
theorem dX11_binds_44 : decode cX11_binds 44 = .ok (.getfield 123, 3) := by decide +kernel
theorem dX11_binds_47 : decode cX11_binds 47 = .ok (.iload 6, 2) := by decide +kernel
theorem dX11_binds_49 : decode cX11_binds 49 = .ok (.iaload, 1) := by decide +kernel
theorem dX11_binds_50 : decode cX11_binds 50 = .ok (.iload 5, 2) := by decide +kernel
theorem dX11_binds_52 : decode cX11_binds 52 = .ok (.if_icmp .ne 12, 3) := by decide +kernel
theorem dX11_binds_55 : decode cX11_binds 55 = .ok (.aload_n 0, 1) := by decide +kernel
theorem dX11_binds_56 : decode cX11_binds 56 = .ok (.getfield 123, 3) := by decide +kernel
theorem dX11_binds_59 : decode cX11_binds 59 = .ok (.iload 6, 2) := by decide +kernel
theorem dX11_binds_61 : decode cX11_binds 61 = .ok (.iload 4, 2) := by decide +kernel
theorem dX11_binds_63 : decode cX11_binds 63 = .ok (.iastore, 1) := by decide +kernel
theorem dX11_binds_64 : decode cX11_binds 64 = .ok (.iinc 6 1, 3) := by decide +kernel
theorem dX11_binds_67 : decode cX11_binds 67 = .ok (.goto (-30), 3) := by decide +kernel
theorem dX11_binds_70 : decode cX11_binds 70 = .ok (.return_, 1) := by decide +kernel
theorem dX11_check_0 : decode cX11_check 0 = .ok (.iload_n 1, 1) := by decide +kernel
theorem dX11_check_1 : decode cX11_check 1 = .ok (.iconst 0, 1) := by decide +kernel
theorem dX11_check_2 : decode cX11_check 2 = .ok (.bipush 10, 2) := by decide +kernel
theorem dX11_check_4 : decode cX11_check 4 = .ok (.invokestatic 150, 3) := by decide +kernel
theorem dX11_check_7 : decode cX11_check 7 = .ok (.ifCond .eq 13, 3) := by decide +kernel
theorem dX11_check_10 : decode cX11_check 10 = .ok (.iload_n 1, 1) := by decide +kernel
theorem dX11_check_11 : decode cX11_check 11 = .ok (.aload_n 0, 1) := by decide +kernel
theorem dX11_check_12 : decode cX11_check 12 = .ok (.getfield 164, 3) := by decide +kernel
theorem dX11_check_15 : decode cX11_check 15 = .ok (.iconst 4, 1) := by decide +kernel
theorem dX11_check_16 : decode cX11_check 16 = .ok (.idiv, 1) := by decide +kernel
theorem dX11_check_17 : decode cX11_check 17 = .ok (.if_icmp .le 6, 3) := by decide +kernel
theorem dX11_check_20 : decode cX11_check 20 = .ok (.bipush (-2), 2) := by decide +kernel
theorem dX11_check_22 : decode cX11_check 22 = .ok (.ireturn, 1) := by decide +kernel
theorem dX11_check_23 : decode cX11_check 23 = .ok (.aload_n 0, 1) := by decide +kernel
theorem dX11_check_24 : decode cX11_check 24 = .ok (.iconst 0, 1) := by decide +kernel
theorem dX11_check_25 : decode cX11_check 25 = .ok (.putfield 164, 3) := by decide +kernel
theorem dX11_check_28 : decode cX11_check 28 = .ok (.iconst 0, 1) := by decide +kernel
theorem dX11_check_29 : decode cX11_check 29 = .ok (.istore_n 2, 1) := by decide +kernel
theorem dX11_check_30 : decode cX11_check 30 = .ok (.iload_n 2, 1) := by decide +kernel
theorem dX11_check_31 : decode cX11_check 31 = .ok (.iload_n 1, 1) := by decide +kernel
theorem dX11_check_32 : decode cX11_check 32 = .ok (.if_icmp .ge 40, 3) := by decide +kernel
theorem dX11_check_35 : decode cX11_check 35 = .ok (.aload_n 0, 1) := by decide +kernel
theorem dX11_check_36 : decode cX11_check 36 = .ok (.iload_n 2, 1) := by decide +kernel
theorem dX11_check_37 : decode cX11_check 37 = .ok (.invokevirtual 457, 3) := by decide +kernel
theorem dX11_check_40 : decode cX11_check 40 = .ok (.aload_n 0, 1) := by decide +kernel
theorem dX11_check_41 : decode cX11_check 41 = .ok (.iload_n 2, 1) := by decide +kernel
theorem dX11_check_42 : decode cX11_check 42 = .ok (.invokevirtual 146, 3) := by decide +kernel
theorem dX11_check_45 : decode cX11_check 45 = .ok (.ifCond .eq 15, 3) := by decide +kernel
theorem dX11_check_48 : decode cX11_check 48 = .ok (.aload_n 0, 1) := by decide +kernel
theorem dX11_check_49 : decode cX11_check 49 = .ok (.getfield 7, 3) := by decide +kernel
theorem dX11_check_52 : decode cX11_check 52 = .ok (.bipush 14, 2) := by decide +kernel
theorem dX11_check_54 : decode cX11_check 54 = .ok (.iload_n 2, 1) := by decide +kernel
theorem dX11_check_55 : decode cX11_check 55 = .ok (.iadd, 1) := by decide +kernel
theorem dX11_check_56 : decode cX11_check 56 = .ok (.iaload, 1) := by decide +kernel
theorem dX11_check_57 : decode cX11_check 57 = .ok (.goto 4, 3) := by decide +kernel
theorem dX11_check_60 : decode cX11_check 60 = .ok (.iconst 0, 1) := by decide +kernel
theorem dX11_check_61 : decode cX11_check 61 = .ok (.if_icmp .eq 5, 3) := by decide +kernel
theorem dX11_check_64 : decode cX11_check 64 = .ok (.iload_n 2, 1) := by decide +kernel
theorem dX11_check_65 : decode cX11_check 65 = .ok (.ireturn, 1) := by decide +kernel
theorem dX11_check_66 : decode cX11_check 66 = .ok (.iinc 2 1, 3) := by decide +kernel
theorem dX11_check_69 : decode cX11_check 69 = .ok (.goto (-39), 3) := by decide +kernel
theorem dX11_check_72 : decode cX11_check 72 = .ok (.iconst (-1), 1) := by decide +kernel
theorem dX11_check_73 : decode cX11_check 73 = .ok (.ireturn, 1) := by decide +kernel
theorem dX11_cloudy_0 : decode cX11_cloudy 0 = .ok (.iload_n 1, 1) := by decide +kernel
theorem dX11_cloudy_1 : decode cX11_cloudy 1 = .ok (.iconst 1, 1) := by decide +kernel
theorem dX11_cloudy_2 : decode cX11_cloudy 2 = .ok (.bipush 10, 2) := by decide +kernel
theorem dX11_cloudy_4 : decode cX11_cloudy 4 = .ok (.invokestatic 150, 3) := by decide +kernel
theorem dX11_cloudy_7 : decode cX11_cloudy 7 = .ok (.ifCond .eq 30, 3) := by decide +kernel
theorem dX11_cloudy_10 : decode cX11_cloudy 10 = .ok (.iload_n 2, 1) := by decide +kernel
theorem dX11_cloudy_11 : decode cX11_cloudy 11 = .ok (.iconst 0, 1) := by decide +kernel
theorem dX11_cloudy_12 : decode cX11_cloudy 12 = .ok (.bipush 90, 2) := by decide +kernel
theorem dX11_cloudy_14 : decode cX11_cloudy 14 = .ok (.invokestatic 150, 3) := by decide +kernel
theorem dX11_cloudy_17 : decode cX11_cloudy 17 = .ok (.ifCond .eq 20, 3) := by decide +kernel
theorem dX11_cloudy_20 : decode cX11_cloudy 20 = .ok (.iload_n 3, 1) := by decide +kernel
theorem dX11_cloudy_21 : decode cX11_cloudy 21 = .ok (.iconst 0, 1) := by decide +kernel
theorem dX11_cloudy_22 : decode cX11_cloudy 22 = .ok (.iconst 2, 1) := by decide +kernel
theorem dX11_cloudy_23 : decode cX11_cloudy 23 = .ok (.invokestatic 150, 3) := by decide +kernel
theorem dX11_cloudy_26 : decode cX11_cloudy 26 = .ok (.ifCond .eq 11, 3) := by decide +kernel
theorem dX11_cloudy_29 : decode cX11_cloudy 29 = .ok (.iload_n 1, 1) := by decide +kernel
theorem dX11_cloudy_30 : decode cX11_cloudy 30 = .ok (.aload_n 0, 1) := by decide +kernel
theorem dX11_cloudy_31 : decode cX11_cloudy 31 = .ok (.getfield 164, 3) := by decide +kernel
theorem dX11_cloudy_34 : decode cX11_cloudy 34 = .ok (.if_icmp .le 5, 3) := by decide +kernel
theorem dX11_cloudy_37 : decode cX11_cloudy 37 = .ok (.iconst (-1), 1) := by decide +kernel
theorem dX11_cloudy_38 : decode cX11_cloudy 38 = .ok (.ireturn, 1) := by decide +kernel
theorem dX11_cloudy_39 : decode cX11_cloudy 39 = .ok (.aload_n 0, 1) := by decide +kernel
theorem dX11_cloudy_40 : decode cX11_cloudy 40 = .ok (.iconst 0, 1) := by decide +kernel
theorem dX11_cloudy_41 : decode cX11_cloudy 41 = .ok (.putfield 164, 3) := by decide +kernel
theorem dX11_cloudy_44 : decode cX11_cloudy 44 = .ok (.iconst 0, 1) := by decide +kernel
theorem dX11_cloudy_45 : decode cX11_cloudy 45 = .ok (.istore 4, 2) := by decide +kernel
theorem dX11_cloudy_47 : decode cX11_cloudy 47 = .ok (.iload 4, 2) := by decide +kernel
theorem dX11_cloudy_49 : decode cX11_cloudy 49 = .ok (.iload_n 1, 1) := by decide +kernel
theorem dX11_cloudy_50 : decode cX11_cloudy 50 = .ok (.if_icmp .ge 28, 3) := by decide +kernel
theorem dX11_cloudy_53 : decode cX11_cloudy 53 = .ok (.aload_n 0, 1) := by decide +kernel
theorem dX11_cloudy_54 : decode cX11_cloudy 54 = .ok (.getfield 32, 3) := by decide +kernel
theorem dX11_cloudy_57 : decode cX11_cloudy 57 = .ok (.iload 4, 2) := by decide +kernel
theorem dX11_cloudy_59 : decode cX11_cloudy 59 = .ok (.baload, 1) := by decide +kernel
theorem dX11_cloudy_60 : decode cX11_cloudy 60 = .ok (.iconst 1, 1) := by decide +kernel
theorem dX11_cloudy_61 : decode cX11_cloudy 61 = .ok (.bipush 9, 2) := by decide +kernel
theorem dX11_cloudy_63 : decode cX11_cloudy 63 = .ok (.invokestatic 150, 3) := by decide +kernel
theorem dX11_cloudy_66 : decode cX11_cloudy 66 = .ok (.ifCond .ne 6, 3) := by decide +kernel
theorem dX11_cloudy_69 : decode cX11_cloudy 69 = .ok (.bipush (-3), 2) := by decide +kernel
theorem dX11_cloudy_71 : decode cX11_cloudy 71 = .ok (.ireturn, 1) := by decide +kernel
theorem dX11_cloudy_72 : decode cX11_cloudy 72 = .ok (.iinc 4 1, 3) := by decide +kernel
theorem dX11_cloudy_75 : decode cX11_cloudy 75 = .ok (.goto (-28), 3) := by decide +kernel
theorem dX11_cloudy_78 : decode cX11_cloudy 78 = .ok (.iconst 0, 1) := by decide +kernel
theorem dX11_cloudy_79 : decode cX11_cloudy 79 = .ok (.istore 4, 2) := by decide +kernel
theorem dX11_cloudy_81 : decode cX11_cloudy 81 = .ok (.bipush (-2), 2) := by decide +kernel
theorem dX11_cloudy_83 : decode cX11_cloudy 83 = .ok (.istore 5, 2) := by decide +kernel
theorem dX11_cloudy_85 : decode cX11_cloudy 85 = .ok (.sipush 1023, 3) := by decide +kernel
theorem dX11_cloudy_88 : decode cX11_cloudy 88 = .ok (.istore 6, 2) := by decide +kernel
theorem dX11_cloudy_90 : decode cX11_cloudy 90 = .ok (.iconst 0, 1) := by decide +kernel
theorem dX11_cloudy_91 : decode cX11_cloudy 91 = .ok (.istore 7, 2) := by decide +kernel
theorem dX11_cloudy_93 : decode cX11_cloudy 93 = .ok (.iload 7, 2) := by decide +kernel
theorem dX11_cloudy_95 : decode cX11_cloudy 95 = .ok (.iconst 1, 1) := by decide +kernel
theorem dX11_cloudy_96 : decode cX11_cloudy 96 = .ok (.iload_n 1, 1) := by decide +kernel
theorem dX11_cloudy_97 : decode cX11_cloudy 97 = .ok (.ishl, 1) := by decide +kernel
theorem dX11_cloudy_98 : decode cX11_cloudy 98 = .ok (.if_icmp .ge 89, 3) := by decide +kernel
theorem dX11_cloudy_101 : decode cX11_cloudy 101 = .ok (.iconst 0, 1) := by decide +kernel
theorem dX11_cloudy_102 : decode cX11_cloudy 102 = .ok (.istore 8, 2) := by decide +kernel
theorem dX11_cloudy_104 : decode cX11_cloudy 104 = .ok (.iconst 0, 1) := by decide +kernel
theorem dX11_cloudy_105 : decode cX11_cloudy 105 = .ok (.istore 9, 2) := by decide +kernel
theorem dX11_cloudy_107 : decode cX11_cloudy 107 = .ok (.iload 9, 2) := by decide +kernel
theorem dX11_cloudy_109 : decode cX11_cloudy 109 = .ok (.iload_n 1, 1) := by decide +kernel
theorem dX11_cloudy_110 : decode cX11_cloudy 110 = .ok (.if_icmp .ge 35, 3) := by decide +kernel
theorem dX11_cloudy_113 : decode cX11_cloudy 113 = .ok (.iload 8, 2) := by decide +kernel
theorem dX11_cloudy_115 : decode cX11_cloudy 115 = .ok (.iload 7, 2) := by decide +kernel
theorem dX11_cloudy_117 : decode cX11_cloudy 117 = .ok (.iload 9, 2) := by decide +kernel
theorem dX11_cloudy_119 : decode cX11_cloudy 119 = .ok (.invokestatic 143, 3) := by decide +kernel
theorem dX11_cloudy_122 : decode cX11_cloudy 122 = .ok (.ifCond .eq 7, 3) := by decide +kernel
theorem dX11_cloudy_125 : decode cX11_cloudy 125 = .ok (.iconst 0, 1) := by decide +kernel
theorem dX11_cloudy_126 : decode cX11_cloudy 126 = .ok (.goto 10, 3) := by decide +kernel
theorem dX11_cloudy_129 : decode cX11_cloudy 129 = .ok (.aload_n 0, 1) := by decide +kernel
theorem dX11_cloudy_130 : decode cX11_cloudy 130 = .ok (.getfield 32, 3) := by decide +kernel
theorem dX11_cloudy_133 : decode cX11_cloudy 133 = .ok (.iload 9, 2) := by decide +kernel
theorem dX11_cloudy_135 : decode cX11_cloudy 135 = .ok (.baload, 1) := by decide +kernel
theorem dX11_cloudy_136 : decode cX11_cloudy 136 = .ok (.iadd, 1) := by decide +kernel
theorem dX11_cloudy_137 : decode cX11_cloudy 137 = .ok (.istore 8, 2) := by decide +kernel
theorem dX11_cloudy_139 : decode cX11_cloudy 139 = .ok (.iinc 9 1, 3) := by decide +kernel
theorem dX11_cloudy_142 : decode cX11_cloudy 142 = .ok (.goto (-35), 3) := by decide +kernel
theorem dX11_cloudy_145 : decode cX11_cloudy 145 = .ok (.iload 8, 2) := by decide +kernel
theorem dX11_cloudy_147 : decode cX11_cloudy 147 = .ok (.iload_n 2, 1) := by decide +kernel
theorem dX11_cloudy_148 : decode cX11_cloudy 148 = .ok (.if_icmp .eq 6, 3) := by decide +kernel
theorem dX11_cloudy_151 : decode cX11_cloudy 151 = .ok (.goto 30, 3) := by decide +kernel
theorem dX11_cloudy_154 : decode cX11_cloudy 154 = .ok (.iload 4, 2) := by decide +kernel
theorem dX11_cloudy_156 : decode cX11_cloudy 156 = .ok (.ifCond .ne 8, 3) := by decide +kernel
theorem dX11_cloudy_159 : decode cX11_cloudy 159 = .ok (.iload 7, 2) := by decide +kernel
theorem dX11_cloudy_161 : decode cX11_cloudy 161 = .ok (.goto 5, 3) := by decide +kernel
theorem dX11_cloudy_164 : decode cX11_cloudy 164 = .ok (.iload 5, 2) := by decide +kernel
theorem dX11_cloudy_166 : decode cX11_cloudy 166 = .ok (.istore 5, 2) := by decide +kernel
theorem dX11_cloudy_168 : decode cX11_cloudy 168 = .ok (.iload 4, 2) := by decide +kernel
theorem dX11_cloudy_170 : decode cX11_cloudy 170 = .ok (.iconst 1, 1) := by decide +kernel
theorem dX11_cloudy_171 : decode cX11_cloudy 171 = .ok (.iadd, 1) := by decide +kernel
theorem dX11_cloudy_172 : decode cX11_cloudy 172 = .ok (.istore 4, 2) := by decide +kernel
theorem dX11_cloudy_174 : decode cX11_cloudy 174 = .ok (.iload 6, 2) := by decide +kernel
theorem dX11_cloudy_176 : decode cX11_cloudy 176 = .ok (.iload 7, 2) := by decide +kernel
theorem dX11_cloudy_178 : decode cX11_cloudy 178 = .ok (.iand, 1) := by decide +kernel
theorem dX11_cloudy_179 : decode cX11_cloudy 179 = .ok (.istore 6, 2) := by decide +kernel
theorem dX11_cloudy_181 : decode cX11_cloudy 181 = .ok (.iinc 7 1, 3) := by decide +kernel
theorem dX11_cloudy_184 : decode cX11_cloudy 184 = .ok (.goto (-91), 3) := by decide +kernel
theorem dX11_cloudy_187 : decode cX11_cloudy 187 = .ok (.iload_n 3, 1) := by decide +kernel
theorem dX11_cloudy_188 : decode cX11_cloudy 188 = .ok (.ifCond .ne 8, 3) := by decide +kernel
theorem dX11_cloudy_191 : decode cX11_cloudy 191 = .ok (.iload 4, 2) := by decide +kernel
theorem dX11_cloudy_193 : decode cX11_cloudy 193 = .ok (.goto 20, 3) := by decide +kernel
theorem dX11_cloudy_196 : decode cX11_cloudy 196 = .ok (.iload_n 3, 1) := by decide +kernel
theorem dX11_cloudy_197 : decode cX11_cloudy 197 = .ok (.iconst 1, 1) := by decide +kernel
theorem dX11_cloudy_198 : decode cX11_cloudy 198 = .ok (.if_icmp .eq 8, 3) := by decide +kernel
theorem dX11_cloudy_201 : decode cX11_cloudy 201 = .ok (.iload 4, 2) := by decide +kernel
theorem dX11_cloudy_203 : decode cX11_cloudy 203 = .ok (.ifCond .ne 8, 3) := by decide +kernel
theorem dX11_cloudy_206 : decode cX11_cloudy 206 = .ok (.iload 5, 2) := by decide +kernel
theorem dX11_cloudy_208 : decode cX11_cloudy 208 = .ok (.goto 5, 3) := by decide +kernel
theorem dX11_cloudy_211 : decode cX11_cloudy 211 = .ok (.iload 6, 2) := by decide +kernel
theorem dX11_cloudy_213 : decode cX11_cloudy 213 = .ok (.ireturn, 1) := by decide +kernel
theorem dX11_failsAt_0 : decode cX11_failsAt 0 = .ok (.iconst 1, 1) := by decide +kernel
theorem dX11_failsAt_1 : decode cX11_failsAt 1 = .ok (.istore_n 2, 1) := by decide +kernel
theorem dX11_failsAt_2 : decode cX11_failsAt 2 = .ok (.iload_n 2, 1) := by decide +kernel
theorem dX11_failsAt_3 : decode cX11_failsAt 3 = .ok (.iload_n 1, 1) := by decide +kernel
theorem dX11_failsAt_4 : decode cX11_failsAt 4 = .ok (.if_icmp .ge 42, 3) := by decide +kernel
theorem dX11_failsAt_7 : decode cX11_failsAt 7 = .ok (.aload_n 0, 1) := by decide +kernel
theorem dX11_failsAt_8 : decode cX11_failsAt 8 = .ok (.aload_n 0, 1) := by decide +kernel
theorem dX11_failsAt_9 : decode cX11_failsAt 9 = .ok (.getfield 32, 3) := by decide +kernel
theorem dX11_failsAt_12 : decode cX11_failsAt 12 = .ok (.iload_n 2, 1) := by decide +kernel
theorem dX11_failsAt_13 : decode cX11_failsAt 13 = .ok (.iconst 1, 1) := by decide +kernel
theorem dX11_failsAt_14 : decode cX11_failsAt 14 = .ok (.isub, 1) := by decide +kernel
theorem dX11_failsAt_15 : decode cX11_failsAt 15 = .ok (.baload, 1) := by decide +kernel
theorem dX11_failsAt_16 : decode cX11_failsAt 16 = .ok (.iconst 3, 1) := by decide +kernel
theorem dX11_failsAt_17 : decode cX11_failsAt 17 = .ok (.iconst 1, 1) := by decide +kernel
theorem dX11_failsAt_18 : decode cX11_failsAt 18 = .ok (.invokevirtual 355, 3) := by decide +kernel
theorem dX11_failsAt_21 : decode cX11_failsAt 21 = .ok (.aload_n 0, 1) := by decide +kernel
theorem dX11_failsAt_22 : decode cX11_failsAt 22 = .ok (.getfield 92, 3) := by decide +kernel
theorem dX11_failsAt_25 : decode cX11_failsAt 25 = .ok (.aload_n 0, 1) := by decide +kernel
theorem dX11_failsAt_26 : decode cX11_failsAt 26 = .ok (.getfield 32, 3) := by decide +kernel
theorem dX11_failsAt_29 : decode cX11_failsAt 29 = .ok (.iload_n 2, 1) := by decide +kernel
theorem dX11_failsAt_30 : decode cX11_failsAt 30 = .ok (.baload, 1) := by decide +kernel
theorem dX11_failsAt_31 : decode cX11_failsAt 31 = .ok (.iaload, 1) := by decide +kernel
theorem dX11_failsAt_32 : decode cX11_failsAt 32 = .ok (.ldc_w 348, 3) := by decide +kernel
theorem dX11_failsAt_35 : decode cX11_failsAt 35 = .ok (.if_icmp .ne 5, 3) := by decide +kernel
theorem dX11_failsAt_38 : decode cX11_failsAt 38 = .ok (.iload_n 2, 1) := by decide +kernel
theorem dX11_failsAt_39 : decode cX11_failsAt 39 = .ok (.ireturn, 1) := by decide +kernel
theorem dX11_failsAt_40 : decode cX11_failsAt 40 = .ok (.iinc 2 1, 3) := by decide +kernel
theorem dX11_failsAt_43 : decode cX11_failsAt 43 = .ok (.goto (-41), 3) := by decide +kernel
theorem dX11_failsAt_46 : decode cX11_failsAt 46 = .ok (.iconst (-1), 1) := by decide +kernel
theorem dX11_failsAt_47 : decode cX11_failsAt 47 = .ok (.ireturn, 1) := by decide +kernel
theorem dX11_prints_0 : decode cX11_prints 0 = .ok (.iload_n 1, 1) := by decide +kernel
theorem dX11_prints_1 : decode cX11_prints 1 = .ok (.iconst 2, 1) := by decide +kernel
theorem dX11_prints_2 : decode cX11_prints 2 = .ok (.bipush 20, 2) := by decide +kernel
theorem dX11_prints_4 : decode cX11_prints 4 = .ok (.invokestatic 150, 3) := by decide +kernel
theorem dX11_prints_7 : decode cX11_prints 7 = .ok (.ifCond .eq 20, 3) := by decide +kernel
theorem dX11_prints_10 : decode cX11_prints 10 = .ok (.iload_n 2, 1) := by decide +kernel
theorem dX11_prints_11 : decode cX11_prints 11 = .ok (.iconst 0, 1) := by decide +kernel
theorem dX11_prints_12 : decode cX11_prints 12 = .ok (.iconst 1, 1) := by decide +kernel
theorem dX11_prints_13 : decode cX11_prints 13 = .ok (.invokestatic 150, 3) := by decide +kernel
theorem dX11_prints_16 : decode cX11_prints 16 = .ok (.ifCond .eq 11, 3) := by decide +kernel
theorem dX11_prints_19 : decode cX11_prints 19 = .ok (.iload_n 1, 1) := by decide +kernel
theorem dX11_prints_20 : decode cX11_prints 20 = .ok (.aload_n 0, 1) := by decide +kernel
theorem dX11_prints_21 : decode cX11_prints 21 = .ok (.getfield 164, 3) := by decide +kernel
theorem dX11_prints_24 : decode cX11_prints 24 = .ok (.if_icmp .le 5, 3) := by decide +kernel
theorem dX11_prints_27 : decode cX11_prints 27 = .ok (.iconst (-1), 1) := by decide +kernel
theorem dX11_prints_28 : decode cX11_prints 28 = .ok (.ireturn, 1) := by decide +kernel
theorem dX11_prints_29 : decode cX11_prints 29 = .ok (.aload_n 0, 1) := by decide +kernel
theorem dX11_prints_30 : decode cX11_prints 30 = .ok (.iconst 0, 1) := by decide +kernel
theorem dX11_prints_31 : decode cX11_prints 31 = .ok (.putfield 164, 3) := by decide +kernel
theorem dX11_prints_34 : decode cX11_prints 34 = .ok (.aload_n 0, 1) := by decide +kernel
theorem dX11_prints_35 : decode cX11_prints 35 = .ok (.iload_n 1, 1) := by decide +kernel
theorem dX11_prints_36 : decode cX11_prints 36 = .ok (.invokevirtual 443, 3) := by decide +kernel
theorem dX11_prints_39 : decode cX11_prints 39 = .ok (.ifCond .ne 6, 3) := by decide +kernel
theorem dX11_prints_42 : decode cX11_prints 42 = .ok (.bipush (-3), 2) := by decide +kernel
theorem dX11_prints_44 : decode cX11_prints 44 = .ok (.ireturn, 1) := by decide +kernel
theorem dX11_prints_45 : decode cX11_prints 45 = .ok (.iload_n 2, 1) := by decide +kernel
theorem dX11_prints_46 : decode cX11_prints 46 = .ok (.iconst 1, 1) := by decide +kernel
theorem dX11_prints_47 : decode cX11_prints 47 = .ok (.if_icmp .ne 16, 3) := by decide +kernel
theorem dX11_prints_50 : decode cX11_prints 50 = .ok (.aload_n 0, 1) := by decide +kernel
theorem dX11_prints_51 : decode cX11_prints 51 = .ok (.getfield 7, 3) := by decide +kernel
theorem dX11_prints_54 : decode cX11_prints 54 = .ok (.bipush 35, 2) := by decide +kernel
theorem dX11_prints_56 : decode cX11_prints 56 = .ok (.iaload, 1) := by decide +kernel
theorem dX11_prints_57 : decode cX11_prints 57 = .ok (.ifCond .ne 6, 3) := by decide +kernel
theorem dX11_prints_60 : decode cX11_prints 60 = .ok (.bipush (-4), 2) := by decide +kernel
theorem dX11_prints_62 : decode cX11_prints 62 = .ok (.ireturn, 1) := by decide +kernel
theorem dX11_prints_63 : decode cX11_prints 63 = .ok (.aload_n 0, 1) := by decide +kernel
theorem dX11_prints_64 : decode cX11_prints 64 = .ok (.iload_n 1, 1) := by decide +kernel
theorem dX11_prints_65 : decode cX11_prints 65 = .ok (.invokevirtual 446, 3) := by decide +kernel
theorem dX11_prints_68 : decode cX11_prints 68 = .ok (.istore_n 3, 1) := by decide +kernel
theorem dX11_prints_69 : decode cX11_prints 69 = .ok (.iconst 0, 1) := by decide +kernel
theorem dX11_prints_70 : decode cX11_prints 70 = .ok (.istore 4, 2) := by decide +kernel
theorem dX11_prints_72 : decode cX11_prints 72 = .ok (.iconst 0, 1) := by decide +kernel
theorem dX11_prints_73 : decode cX11_prints 73 = .ok (.istore 5, 2) := by decide +kernel
theorem dX11_prints_75 : decode cX11_prints 75 = .ok (.iload 5, 2) := by decide +kernel
theorem dX11_prints_77 : decode cX11_prints 77 = .ok (.bipush 10, 2) := by decide +kernel
theorem dX11_prints_79 : decode cX11_prints 79 = .ok (.if_icmp .ge 62, 3) := by decide +kernel
theorem dX11_prints_82 : decode cX11_prints 82 = .ok (.aload_n 0, 1) := by decide +kernel
theorem dX11_prints_83 : decode cX11_prints 83 = .ok (.iload 5, 2) := by decide +kernel
theorem dX11_prints_85 : decode cX11_prints 85 = .ok (.invokevirtual 146, 3) := by decide +kernel
theorem dX11_prints_88 : decode cX11_prints 88 = .ok (.ifCond .ne 6, 3) := by decide +kernel
theorem dX11_prints_91 : decode cX11_prints 91 = .ok (.goto 44, 3) := by decide +kernel
theorem dX11_prints_94 : decode cX11_prints 94 = .ok (.aload_n 0, 1) := by decide +kernel
theorem dX11_prints_95 : decode cX11_prints 95 = .ok (.aload_n 0, 1) := by decide +kernel
theorem dX11_prints_96 : decode cX11_prints 96 = .ok (.getfield 7, 3) := by decide +kernel
theorem dX11_prints_99 : decode cX11_prints 99 = .ok (.iconst 4, 1) := by decide +kernel
theorem dX11_prints_100 : decode cX11_prints 100 = .ok (.iload 5, 2) := by decide +kernel
theorem dX11_prints_102 : decode cX11_prints 102 = .ok (.iadd, 1) := by decide +kernel
theorem dX11_prints_103 : decode cX11_prints 103 = .ok (.iaload, 1) := by decide +kernel
theorem dX11_prints_104 : decode cX11_prints 104 = .ok (.iconst 3, 1) := by decide +kernel
theorem dX11_prints_105 : decode cX11_prints 105 = .ok (.iconst 1, 1) := by decide +kernel
theorem dX11_prints_106 : decode cX11_prints 106 = .ok (.invokevirtual 355, 3) := by decide +kernel
theorem dX11_prints_109 : decode cX11_prints 109 = .ok (.aload_n 0, 1) := by decide +kernel
theorem dX11_prints_110 : decode cX11_prints 110 = .ok (.getfield 92, 3) := by decide +kernel
theorem dX11_prints_113 : decode cX11_prints 113 = .ok (.aload_n 0, 1) := by decide +kernel
theorem dX11_prints_114 : decode cX11_prints 114 = .ok (.getfield 32, 3) := by decide +kernel
theorem dX11_prints_117 : decode cX11_prints 117 = .ok (.iconst 0, 1) := by decide +kernel
theorem dX11_prints_118 : decode cX11_prints 118 = .ok (.baload, 1) := by decide +kernel
theorem dX11_prints_119 : decode cX11_prints 119 = .ok (.iaload, 1) := by decide +kernel
theorem dX11_prints_120 : decode cX11_prints 120 = .ok (.ldc_w 348, 3) := by decide +kernel
theorem dX11_prints_123 : decode cX11_prints 123 = .ok (.if_icmp .ge 12, 3) := by decide +kernel
theorem dX11_prints_126 : decode cX11_prints 126 = .ok (.iload 4, 2) := by decide +kernel
theorem dX11_prints_128 : decode cX11_prints 128 = .ok (.iconst 1, 1) := by decide +kernel
theorem dX11_prints_129 : decode cX11_prints 129 = .ok (.iload 5, 2) := by decide +kernel
theorem dX11_prints_131 : decode cX11_prints 131 = .ok (.ishl, 1) := by decide +kernel
theorem dX11_prints_132 : decode cX11_prints 132 = .ok (.ior, 1) := by decide +kernel
theorem dX11_prints_133 : decode cX11_prints 133 = .ok (.istore 4, 2) := by decide +kernel
theorem dX11_prints_135 : decode cX11_prints 135 = .ok (.iinc 5 1, 3) := by decide +kernel
theorem dX11_prints_138 : decode cX11_prints 138 = .ok (.goto (-63), 3) := by decide +kernel
theorem dX11_prints_141 : decode cX11_prints 141 = .ok (.iload_n 2, 1) := by decide +kernel
theorem dX11_prints_142 : decode cX11_prints 142 = .ok (.ifCond .ne 15, 3) := by decide +kernel
theorem dX11_prints_145 : decode cX11_prints 145 = .ok (.iload_n 3, 1) := by decide +kernel
theorem dX11_prints_146 : decode cX11_prints 146 = .ok (.iconst (-1), 1) := by decide +kernel
theorem dX11_prints_147 : decode cX11_prints 147 = .ok (.if_icmp .ne 8, 3) := by decide +kernel
theorem dX11_prints_150 : decode cX11_prints 150 = .ok (.iload 4, 2) := by decide +kernel
theorem dX11_prints_152 : decode cX11_prints 152 = .ok (.goto 4, 3) := by decide +kernel
theorem dX11_prints_155 : decode cX11_prints 155 = .ok (.iconst 0, 1) := by decide +kernel
theorem dX11_prints_156 : decode cX11_prints 156 = .ok (.ireturn, 1) := by decide +kernel
theorem dX11_prints_157 : decode cX11_prints 157 = .ok (.iload 4, 2) := by decide +kernel
theorem dX11_prints_159 : decode cX11_prints 159 = .ok (.ifCond .ne 7, 3) := by decide +kernel
theorem dX11_prints_162 : decode cX11_prints 162 = .ok (.iconst 0, 1) := by decide +kernel
theorem dX11_prints_163 : decode cX11_prints 163 = .ok (.goto 14, 3) := by decide +kernel
theorem dX11_prints_166 : decode cX11_prints 166 = .ok (.iload_n 3, 1) := by decide +kernel
theorem dX11_prints_167 : decode cX11_prints 167 = .ok (.iconst (-1), 1) := by decide +kernel
theorem dX11_prints_168 : decode cX11_prints 168 = .ok (.if_icmp .ne 8, 3) := by decide +kernel
theorem dX11_prints_171 : decode cX11_prints 171 = .ok (.bipush (-2), 2) := by decide +kernel
theorem dX11_prints_173 : decode cX11_prints 173 = .ok (.goto 4, 3) := by decide +kernel
theorem dX11_prints_176 : decode cX11_prints 176 = .ok (.iload_n 3, 1) := by decide +kernel
theorem dX11_prints_177 : decode cX11_prints 177 = .ok (.ireturn, 1) := by decide +kernel
theorem dX11_tapeNumber_0 : decode cX11_tapeNumber 0 = .ok (.iconst 0, 1) := by decide +kernel
theorem dX11_tapeNumber_1 : decode cX11_tapeNumber 1 = .ok (.istore_n 2, 1) := by decide +kernel
theorem dX11_tapeNumber_2 : decode cX11_tapeNumber 2 = .ok (.iconst 4, 1) := by decide +kernel
theorem dX11_tapeNumber_3 : decode cX11_tapeNumber 3 = .ok (.iload_n 1, 1) := by decide +kernel
theorem dX11_tapeNumber_4 : decode cX11_tapeNumber 4 = .ok (.imul, 1) := by decide +kernel
theorem dX11_tapeNumber_5 : decode cX11_tapeNumber 5 = .ok (.istore_n 3, 1) := by decide +kernel
theorem dX11_tapeNumber_6 : decode cX11_tapeNumber 6 = .ok (.iload_n 3, 1) := by decide +kernel
theorem dX11_tapeNumber_7 : decode cX11_tapeNumber 7 = .ok (.iconst 4, 1) := by decide +kernel
theorem dX11_tapeNumber_8 : decode cX11_tapeNumber 8 = .ok (.iload_n 1, 1) := by decide +kernel
theorem dX11_tapeNumber_9 : decode cX11_tapeNumber 9 = .ok (.imul, 1) := by decide +kernel
theorem dX11_tapeNumber_10 : decode cX11_tapeNumber 10 = .ok (.iconst 4, 1) := by decide +kernel
theorem dX11_tapeNumber_11 : decode cX11_tapeNumber 11 = .ok (.iadd, 1) := by decide +kernel
theorem dX11_tapeNumber_12 : decode cX11_tapeNumber 12 = .ok (.if_icmp .ge 25, 3) := by decide +kernel
theorem dX11_tapeNumber_15 : decode cX11_tapeNumber 15 = .ok (.iload_n 2, 1) := by decide +kernel
theorem dX11_tapeNumber_16 : decode cX11_tapeNumber 16 = .ok (.bipush 8, 2) := by decide +kernel
theorem dX11_tapeNumber_18 : decode cX11_tapeNumber 18 = .ok (.ishl, 1) := by decide +kernel
theorem dX11_tapeNumber_19 : decode cX11_tapeNumber 19 = .ok (.aload_n 0, 1) := by decide +kernel
theorem dX11_tapeNumber_20 : decode cX11_tapeNumber 20 = .ok (.getfield 32, 3) := by decide +kernel
theorem dX11_tapeNumber_23 : decode cX11_tapeNumber 23 = .ok (.iload_n 3, 1) := by decide +kernel
theorem dX11_tapeNumber_24 : decode cX11_tapeNumber 24 = .ok (.baload, 1) := by decide +kernel
theorem dX11_tapeNumber_25 : decode cX11_tapeNumber 25 = .ok (.sipush 255, 3) := by decide +kernel
theorem dX11_tapeNumber_28 : decode cX11_tapeNumber 28 = .ok (.iand, 1) := by decide +kernel
theorem dX11_tapeNumber_29 : decode cX11_tapeNumber 29 = .ok (.ior, 1) := by decide +kernel
theorem dX11_tapeNumber_30 : decode cX11_tapeNumber 30 = .ok (.istore_n 2, 1) := by decide +kernel
theorem dX11_tapeNumber_31 : decode cX11_tapeNumber 31 = .ok (.iinc 3 1, 3) := by decide +kernel
theorem dX11_tapeNumber_34 : decode cX11_tapeNumber 34 = .ok (.goto (-28), 3) := by decide +kernel
theorem dX11_tapeNumber_37 : decode cX11_tapeNumber 37 = .ok (.iload_n 2, 1) := by decide +kernel
theorem dX11_tapeNumber_38 : decode cX11_tapeNumber 38 = .ok (.ireturn, 1) := by decide +kernel
theorem dX11_together_0 : decode cX11_together 0 = .ok (.iload_n 1, 1) := by decide +kernel
theorem dX11_together_1 : decode cX11_together 1 = .ok (.iconst 1, 1) := by decide +kernel
theorem dX11_together_2 : decode cX11_together 2 = .ok (.bipush 8, 2) := by decide +kernel
theorem dX11_together_4 : decode cX11_together 4 = .ok (.invokestatic 150, 3) := by decide +kernel
theorem dX11_together_7 : decode cX11_together 7 = .ok (.ifCond .eq 24, 3) := by decide +kernel
theorem dX11_together_10 : decode cX11_together 10 = .ok (.iload_n 2, 1) := by decide +kernel
theorem dX11_together_11 : decode cX11_together 11 = .ok (.iconst 0, 1) := by decide +kernel
theorem dX11_together_12 : decode cX11_together 12 = .ok (.iconst 2, 1) := by decide +kernel
theorem dX11_together_13 : decode cX11_together 13 = .ok (.invokestatic 150, 3) := by decide +kernel
theorem dX11_together_16 : decode cX11_together 16 = .ok (.ifCond .eq 15, 3) := by decide +kernel
theorem dX11_together_19 : decode cX11_together 19 = .ok (.iconst 2, 1) := by decide +kernel
theorem dX11_together_20 : decode cX11_together 20 = .ok (.iload_n 1, 1) := by decide +kernel
theorem dX11_together_21 : decode cX11_together 21 = .ok (.imul, 1) := by decide +kernel
theorem dX11_together_22 : decode cX11_together 22 = .ok (.iconst 1, 1) := by decide +kernel
theorem dX11_together_23 : decode cX11_together 23 = .ok (.iadd, 1) := by decide +kernel
theorem dX11_together_24 : decode cX11_together 24 = .ok (.aload_n 0, 1) := by decide +kernel
theorem dX11_together_25 : decode cX11_together 25 = .ok (.getfield 164, 3) := by decide +kernel
theorem dX11_together_28 : decode cX11_together 28 = .ok (.if_icmp .le 5, 3) := by decide +kernel
theorem dX11_together_31 : decode cX11_together 31 = .ok (.iconst (-1), 1) := by decide +kernel
theorem dX11_together_32 : decode cX11_together 32 = .ok (.ireturn, 1) := by decide +kernel
theorem dX11_together_33 : decode cX11_together 33 = .ok (.aload_n 0, 1) := by decide +kernel
theorem dX11_together_34 : decode cX11_together 34 = .ok (.getfield 32, 3) := by decide +kernel
theorem dX11_together_37 : decode cX11_together 37 = .ok (.iconst 2, 1) := by decide +kernel
theorem dX11_together_38 : decode cX11_together 38 = .ok (.iload_n 1, 1) := by decide +kernel
theorem dX11_together_39 : decode cX11_together 39 = .ok (.imul, 1) := by decide +kernel
theorem dX11_together_40 : decode cX11_together 40 = .ok (.baload, 1) := by decide +kernel
theorem dX11_together_41 : decode cX11_together 41 = .ok (.sipush 255, 3) := by decide +kernel
theorem dX11_together_44 : decode cX11_together 44 = .ok (.iand, 1) := by decide +kernel
theorem dX11_together_45 : decode cX11_together 45 = .ok (.istore_n 3, 1) := by decide +kernel
theorem dX11_together_46 : decode cX11_together 46 = .ok (.iconst 2, 1) := by decide +kernel
theorem dX11_together_47 : decode cX11_together 47 = .ok (.iload_n 1, 1) := by decide +kernel
theorem dX11_together_48 : decode cX11_together 48 = .ok (.imul, 1) := by decide +kernel
theorem dX11_together_49 : decode cX11_together 49 = .ok (.iconst 1, 1) := by decide +kernel
theorem dX11_together_50 : decode cX11_together 50 = .ok (.iadd, 1) := by decide +kernel
theorem dX11_together_51 : decode cX11_together 51 = .ok (.iconst 2, 1) := by decide +kernel
theorem dX11_together_52 : decode cX11_together 52 = .ok (.iload_n 3, 1) := by decide +kernel
theorem dX11_together_53 : decode cX11_together 53 = .ok (.imul, 1) := by decide +kernel
theorem dX11_together_54 : decode cX11_together 54 = .ok (.iadd, 1) := by decide +kernel
theorem dX11_together_55 : decode cX11_together 55 = .ok (.aload_n 0, 1) := by decide +kernel
theorem dX11_together_56 : decode cX11_together 56 = .ok (.getfield 164, 3) := by decide +kernel
theorem dX11_together_59 : decode cX11_together 59 = .ok (.if_icmp .le 5, 3) := by decide +kernel
theorem dX11_together_62 : decode cX11_together 62 = .ok (.iconst (-1), 1) := by decide +kernel
theorem dX11_together_63 : decode cX11_together 63 = .ok (.ireturn, 1) := by decide +kernel
theorem dX11_together_64 : decode cX11_together 64 = .ok (.aload_n 0, 1) := by decide +kernel
theorem dX11_together_65 : decode cX11_together 65 = .ok (.iconst 0, 1) := by decide +kernel
theorem dX11_together_66 : decode cX11_together 66 = .ok (.putfield 164, 3) := by decide +kernel
theorem dX11_together_69 : decode cX11_together 69 = .ok (.iload_n 3, 1) := by decide +kernel
theorem dX11_together_70 : decode cX11_together 70 = .ok (.bipush 12, 2) := by decide +kernel
theorem dX11_together_72 : decode cX11_together 72 = .ok (.if_icmp .le 6, 3) := by decide +kernel
theorem dX11_together_75 : decode cX11_together 75 = .ok (.bipush (-2), 2) := by decide +kernel
theorem dX11_together_77 : decode cX11_together 77 = .ok (.ireturn, 1) := by decide +kernel
theorem dX11_together_78 : decode cX11_together 78 = .ok (.iconst 0, 1) := by decide +kernel
theorem dX11_together_79 : decode cX11_together 79 = .ok (.istore 4, 2) := by decide +kernel
theorem dX11_together_81 : decode cX11_together 81 = .ok (.iload 4, 2) := by decide +kernel
theorem dX11_together_83 : decode cX11_together 83 = .ok (.iload_n 1, 1) := by decide +kernel
theorem dX11_together_84 : decode cX11_together 84 = .ok (.if_icmp .ge 26, 3) := by decide +kernel
theorem dX11_together_87 : decode cX11_together 87 = .ok (.aload_n 0, 1) := by decide +kernel
theorem dX11_together_88 : decode cX11_together 88 = .ok (.getfield 123, 3) := by decide +kernel
theorem dX11_together_91 : decode cX11_together 91 = .ok (.iload 4, 2) := by decide +kernel
theorem dX11_together_93 : decode cX11_together 93 = .ok (.iload 4, 2) := by decide +kernel
theorem dX11_together_95 : decode cX11_together 95 = .ok (.iastore, 1) := by decide +kernel
theorem dX11_together_96 : decode cX11_together 96 = .ok (.aload_n 0, 1) := by decide +kernel
theorem dX11_together_97 : decode cX11_together 97 = .ok (.getfield 126, 3) := by decide +kernel
theorem dX11_together_100 : decode cX11_together 100 = .ok (.iload 4, 2) := by decide +kernel
theorem dX11_together_102 : decode cX11_together 102 = .ok (.iconst 0, 1) := by decide +kernel
theorem dX11_together_103 : decode cX11_together 103 = .ok (.iastore, 1) := by decide +kernel
theorem dX11_together_104 : decode cX11_together 104 = .ok (.iinc 4 1, 3) := by decide +kernel
theorem dX11_together_107 : decode cX11_together 107 = .ok (.goto (-26), 3) := by decide +kernel
theorem dX11_together_110 : decode cX11_together 110 = .ok (.iconst 0, 1) := by decide +kernel
theorem dX11_together_111 : decode cX11_together 111 = .ok (.istore 4, 2) := by decide +kernel
theorem dX11_together_113 : decode cX11_together 113 = .ok (.iload 4, 2) := by decide +kernel
theorem dX11_together_115 : decode cX11_together 115 = .ok (.iconst 2, 1) := by decide +kernel
theorem dX11_together_116 : decode cX11_together 116 = .ok (.iload_n 3, 1) := by decide +kernel
theorem dX11_together_117 : decode cX11_together 117 = .ok (.imul, 1) := by decide +kernel
theorem dX11_together_118 : decode cX11_together 118 = .ok (.if_icmp .ge 35, 3) := by decide +kernel
theorem dX11_together_121 : decode cX11_together 121 = .ok (.aload_n 0, 1) := by decide +kernel
theorem dX11_together_122 : decode cX11_together 122 = .ok (.getfield 32, 3) := by decide +kernel
theorem dX11_together_125 : decode cX11_together 125 = .ok (.iconst 2, 1) := by decide +kernel
theorem dX11_together_126 : decode cX11_together 126 = .ok (.iload_n 1, 1) := by decide +kernel
theorem dX11_together_127 : decode cX11_together 127 = .ok (.imul, 1) := by decide +kernel
theorem dX11_together_128 : decode cX11_together 128 = .ok (.iconst 1, 1) := by decide +kernel
theorem dX11_together_129 : decode cX11_together 129 = .ok (.iadd, 1) := by decide +kernel
theorem dX11_together_130 : decode cX11_together 130 = .ok (.iload 4, 2) := by decide +kernel
theorem dX11_together_132 : decode cX11_together 132 = .ok (.iadd, 1) := by decide +kernel
theorem dX11_together_133 : decode cX11_together 133 = .ok (.baload, 1) := by decide +kernel
theorem dX11_together_134 : decode cX11_together 134 = .ok (.iconst 0, 1) := by decide +kernel
theorem dX11_together_135 : decode cX11_together 135 = .ok (.iload_n 1, 1) := by decide +kernel
theorem dX11_together_136 : decode cX11_together 136 = .ok (.iconst 1, 1) := by decide +kernel
theorem dX11_together_137 : decode cX11_together 137 = .ok (.isub, 1) := by decide +kernel
theorem dX11_together_138 : decode cX11_together 138 = .ok (.invokestatic 150, 3) := by decide +kernel
theorem dX11_together_141 : decode cX11_together 141 = .ok (.ifCond .ne 6, 3) := by decide +kernel
theorem dX11_together_144 : decode cX11_together 144 = .ok (.bipush (-2), 2) := by decide +kernel
theorem dX11_together_146 : decode cX11_together 146 = .ok (.ireturn, 1) := by decide +kernel
theorem dX11_together_147 : decode cX11_together 147 = .ok (.iinc 4 1, 3) := by decide +kernel
theorem dX11_together_150 : decode cX11_together 150 = .ok (.goto (-37), 3) := by decide +kernel
theorem dX11_together_153 : decode cX11_together 153 = .ok (.iconst 0, 1) := by decide +kernel
theorem dX11_together_154 : decode cX11_together 154 = .ok (.istore 4, 2) := by decide +kernel
theorem dX11_together_156 : decode cX11_together 156 = .ok (.iload 4, 2) := by decide +kernel
theorem dX11_together_158 : decode cX11_together 158 = .ok (.iload_n 3, 1) := by decide +kernel
theorem dX11_together_159 : decode cX11_together 159 = .ok (.if_icmp .ge 44, 3) := by decide +kernel
theorem dX11_together_162 : decode cX11_together 162 = .ok (.aload_n 0, 1) := by decide +kernel
theorem dX11_together_163 : decode cX11_together 163 = .ok (.aload_n 0, 1) := by decide +kernel
theorem dX11_together_164 : decode cX11_together 164 = .ok (.getfield 32, 3) := by decide +kernel
theorem dX11_together_167 : decode cX11_together 167 = .ok (.iconst 2, 1) := by decide +kernel
theorem dX11_together_168 : decode cX11_together 168 = .ok (.iload_n 1, 1) := by decide +kernel
theorem dX11_together_169 : decode cX11_together 169 = .ok (.imul, 1) := by decide +kernel
theorem dX11_together_170 : decode cX11_together 170 = .ok (.iconst 1, 1) := by decide +kernel
theorem dX11_together_171 : decode cX11_together 171 = .ok (.iadd, 1) := by decide +kernel
theorem dX11_together_172 : decode cX11_together 172 = .ok (.iconst 2, 1) := by decide +kernel
theorem dX11_together_173 : decode cX11_together 173 = .ok (.iload 4, 2) := by decide +kernel
theorem dX11_together_175 : decode cX11_together 175 = .ok (.imul, 1) := by decide +kernel
theorem dX11_together_176 : decode cX11_together 176 = .ok (.iadd, 1) := by decide +kernel
theorem dX11_together_177 : decode cX11_together 177 = .ok (.baload, 1) := by decide +kernel
theorem dX11_together_178 : decode cX11_together 178 = .ok (.aload_n 0, 1) := by decide +kernel
theorem dX11_together_179 : decode cX11_together 179 = .ok (.getfield 32, 3) := by decide +kernel
theorem dX11_together_182 : decode cX11_together 182 = .ok (.iconst 2, 1) := by decide +kernel
theorem dX11_together_183 : decode cX11_together 183 = .ok (.iload_n 1, 1) := by decide +kernel
theorem dX11_together_184 : decode cX11_together 184 = .ok (.imul, 1) := by decide +kernel
theorem dX11_together_185 : decode cX11_together 185 = .ok (.iconst 2, 1) := by decide +kernel
theorem dX11_together_186 : decode cX11_together 186 = .ok (.iadd, 1) := by decide +kernel
theorem dX11_together_187 : decode cX11_together 187 = .ok (.iconst 2, 1) := by decide +kernel
theorem dX11_together_188 : decode cX11_together 188 = .ok (.iload 4, 2) := by decide +kernel
theorem dX11_together_190 : decode cX11_together 190 = .ok (.imul, 1) := by decide +kernel
theorem dX11_together_191 : decode cX11_together 191 = .ok (.iadd, 1) := by decide +kernel
theorem dX11_together_192 : decode cX11_together 192 = .ok (.baload, 1) := by decide +kernel
theorem dX11_together_193 : decode cX11_together 193 = .ok (.iload_n 1, 1) := by decide +kernel
theorem dX11_together_194 : decode cX11_together 194 = .ok (.invokevirtual 449, 3) := by decide +kernel
theorem dX11_together_197 : decode cX11_together 197 = .ok (.iinc 4 1, 3) := by decide +kernel
theorem dX11_together_200 : decode cX11_together 200 = .ok (.goto (-44), 3) := by decide +kernel
theorem dX11_together_203 : decode cX11_together 203 = .ok (.iconst 0, 1) := by decide +kernel
theorem dX11_together_204 : decode cX11_together 204 = .ok (.istore 4, 2) := by decide +kernel
theorem dX11_together_206 : decode cX11_together 206 = .ok (.iload 4, 2) := by decide +kernel
theorem dX11_together_208 : decode cX11_together 208 = .ok (.iload_n 1, 1) := by decide +kernel
theorem dX11_together_209 : decode cX11_together 209 = .ok (.if_icmp .ge 69, 3) := by decide +kernel
theorem dX11_together_212 : decode cX11_together 212 = .ok (.aload_n 0, 1) := by decide +kernel
theorem dX11_together_213 : decode cX11_together 213 = .ok (.getfield 126, 3) := by decide +kernel
theorem dX11_together_216 : decode cX11_together 216 = .ok (.aload_n 0, 1) := by decide +kernel
theorem dX11_together_217 : decode cX11_together 217 = .ok (.getfield 123, 3) := by decide +kernel
theorem dX11_together_220 : decode cX11_together 220 = .ok (.iload 4, 2) := by decide +kernel
theorem dX11_together_222 : decode cX11_together 222 = .ok (.iaload, 1) := by decide +kernel
theorem dX11_together_223 : decode cX11_together 223 = .ok (.aload_n 0, 1) := by decide +kernel
theorem dX11_together_224 : decode cX11_together 224 = .ok (.getfield 126, 3) := by decide +kernel
theorem dX11_together_227 : decode cX11_together 227 = .ok (.aload_n 0, 1) := by decide +kernel
theorem dX11_together_228 : decode cX11_together 228 = .ok (.getfield 123, 3) := by decide +kernel
theorem dX11_together_231 : decode cX11_together 231 = .ok (.iload 4, 2) := by decide +kernel
theorem dX11_together_233 : decode cX11_together 233 = .ok (.iaload, 1) := by decide +kernel
theorem dX11_together_234 : decode cX11_together 234 = .ok (.iaload, 1) := by decide +kernel
theorem dX11_together_235 : decode cX11_together 235 = .ok (.aload_n 0, 1) := by decide +kernel
theorem dX11_together_236 : decode cX11_together 236 = .ok (.getfield 32, 3) := by decide +kernel
theorem dX11_together_239 : decode cX11_together 239 = .ok (.iconst 2, 1) := by decide +kernel
theorem dX11_together_240 : decode cX11_together 240 = .ok (.iload 4, 2) := by decide +kernel
theorem dX11_together_242 : decode cX11_together 242 = .ok (.imul, 1) := by decide +kernel
theorem dX11_together_243 : decode cX11_together 243 = .ok (.baload, 1) := by decide +kernel
theorem dX11_together_244 : decode cX11_together 244 = .ok (.sipush 255, 3) := by decide +kernel
theorem dX11_together_247 : decode cX11_together 247 = .ok (.iand, 1) := by decide +kernel
theorem dX11_together_248 : decode cX11_together 248 = .ok (.sipush 256, 3) := by decide +kernel
theorem dX11_together_251 : decode cX11_together 251 = .ok (.imul, 1) := by decide +kernel
theorem dX11_together_252 : decode cX11_together 252 = .ok (.aload_n 0, 1) := by decide +kernel
theorem dX11_together_253 : decode cX11_together 253 = .ok (.getfield 32, 3) := by decide +kernel
theorem dX11_together_256 : decode cX11_together 256 = .ok (.iconst 2, 1) := by decide +kernel
theorem dX11_together_257 : decode cX11_together 257 = .ok (.iload 4, 2) := by decide +kernel
theorem dX11_together_259 : decode cX11_together 259 = .ok (.imul, 1) := by decide +kernel
theorem dX11_together_260 : decode cX11_together 260 = .ok (.iconst 1, 1) := by decide +kernel
theorem dX11_together_261 : decode cX11_together 261 = .ok (.iadd, 1) := by decide +kernel
theorem dX11_together_262 : decode cX11_together 262 = .ok (.baload, 1) := by decide +kernel
theorem dX11_together_263 : decode cX11_together 263 = .ok (.sipush 255, 3) := by decide +kernel
theorem dX11_together_266 : decode cX11_together 266 = .ok (.iand, 1) := by decide +kernel
theorem dX11_together_267 : decode cX11_together 267 = .ok (.iadd, 1) := by decide +kernel
theorem dX11_together_268 : decode cX11_together 268 = .ok (.invokestatic 416, 3) := by decide +kernel
theorem dX11_together_271 : decode cX11_together 271 = .ok (.iastore, 1) := by decide +kernel
theorem dX11_together_272 : decode cX11_together 272 = .ok (.iinc 4 1, 3) := by decide +kernel
theorem dX11_together_275 : decode cX11_together 275 = .ok (.goto (-69), 3) := by decide +kernel
theorem dX11_together_278 : decode cX11_together 278 = .ok (.iconst 0, 1) := by decide +kernel
theorem dX11_together_279 : decode cX11_together 279 = .ok (.istore 4, 2) := by decide +kernel
theorem dX11_together_281 : decode cX11_together 281 = .ok (.iconst 0, 1) := by decide +kernel
theorem dX11_together_282 : decode cX11_together 282 = .ok (.istore 5, 2) := by decide +kernel
theorem dX11_together_284 : decode cX11_together 284 = .ok (.iconst 0, 1) := by decide +kernel
theorem dX11_together_285 : decode cX11_together 285 = .ok (.istore 6, 2) := by decide +kernel
theorem dX11_together_287 : decode cX11_together 287 = .ok (.iconst 0, 1) := by decide +kernel
theorem dX11_together_288 : decode cX11_together 288 = .ok (.istore 7, 2) := by decide +kernel
theorem dX11_together_290 : decode cX11_together 290 = .ok (.iload 7, 2) := by decide +kernel
theorem dX11_together_292 : decode cX11_together 292 = .ok (.iload_n 1, 1) := by decide +kernel
theorem dX11_together_293 : decode cX11_together 293 = .ok (.if_icmp .ge 53, 3) := by decide +kernel
theorem dX11_together_296 : decode cX11_together 296 = .ok (.aload_n 0, 1) := by decide +kernel
theorem dX11_together_297 : decode cX11_together 297 = .ok (.getfield 123, 3) := by decide +kernel
theorem dX11_together_300 : decode cX11_together 300 = .ok (.iload 7, 2) := by decide +kernel
theorem dX11_together_302 : decode cX11_together 302 = .ok (.iaload, 1) := by decide +kernel
theorem dX11_together_303 : decode cX11_together 303 = .ok (.iload 7, 2) := by decide +kernel
theorem dX11_together_305 : decode cX11_together 305 = .ok (.if_icmp .ne 9, 3) := by decide +kernel
theorem dX11_together_308 : decode cX11_together 308 = .ok (.iload 5, 2) := by decide +kernel
theorem dX11_together_310 : decode cX11_together 310 = .ok (.iconst 1, 1) := by decide +kernel
theorem dX11_together_311 : decode cX11_together 311 = .ok (.iadd, 1) := by decide +kernel
theorem dX11_together_312 : decode cX11_together 312 = .ok (.istore 5, 2) := by decide +kernel
theorem dX11_together_314 : decode cX11_together 314 = .ok (.iload 4, 2) := by decide +kernel
theorem dX11_together_316 : decode cX11_together 316 = .ok (.aload_n 0, 1) := by decide +kernel
theorem dX11_together_317 : decode cX11_together 317 = .ok (.getfield 126, 3) := by decide +kernel
theorem dX11_together_320 : decode cX11_together 320 = .ok (.iload 7, 2) := by decide +kernel
theorem dX11_together_322 : decode cX11_together 322 = .ok (.iaload, 1) := by decide +kernel
theorem dX11_together_323 : decode cX11_together 323 = .ok (.iadd, 1) := by decide +kernel
theorem dX11_together_324 : decode cX11_together 324 = .ok (.istore 4, 2) := by decide +kernel
theorem dX11_together_326 : decode cX11_together 326 = .ok (.iload 6, 2) := by decide +kernel
theorem dX11_together_328 : decode cX11_together 328 = .ok (.aload_n 0, 1) := by decide +kernel
theorem dX11_together_329 : decode cX11_together 329 = .ok (.getfield 126, 3) := by decide +kernel
theorem dX11_together_332 : decode cX11_together 332 = .ok (.iload 7, 2) := by decide +kernel
theorem dX11_together_334 : decode cX11_together 334 = .ok (.iaload, 1) := by decide +kernel
theorem dX11_together_335 : decode cX11_together 335 = .ok (.invokestatic 416, 3) := by decide +kernel
theorem dX11_together_338 : decode cX11_together 338 = .ok (.istore 6, 2) := by decide +kernel
theorem dX11_together_340 : decode cX11_together 340 = .ok (.iinc 7 1, 3) := by decide +kernel
theorem dX11_together_343 : decode cX11_together 343 = .ok (.goto (-53), 3) := by decide +kernel
theorem dX11_together_346 : decode cX11_together 346 = .ok (.iload_n 2, 1) := by decide +kernel
theorem dX11_together_347 : decode cX11_together 347 = .ok (.ifCond .ne 8, 3) := by decide +kernel
theorem dX11_together_350 : decode cX11_together 350 = .ok (.iload 4, 2) := by decide +kernel
theorem dX11_together_352 : decode cX11_together 352 = .ok (.goto 15, 3) := by decide +kernel
theorem dX11_together_355 : decode cX11_together 355 = .ok (.iload_n 2, 1) := by decide +kernel
theorem dX11_together_356 : decode cX11_together 356 = .ok (.iconst 1, 1) := by decide +kernel
theorem dX11_together_357 : decode cX11_together 357 = .ok (.if_icmp .ne 8, 3) := by decide +kernel
theorem dX11_together_360 : decode cX11_together 360 = .ok (.iload 5, 2) := by decide +kernel
theorem dX11_together_362 : decode cX11_together 362 = .ok (.goto 5, 3) := by decide +kernel
theorem dX11_together_365 : decode cX11_together 365 = .ok (.iload 6, 2) := by decide +kernel
theorem dX11_together_367 : decode cX11_together 367 = .ok (.ireturn, 1) := by decide +kernel
