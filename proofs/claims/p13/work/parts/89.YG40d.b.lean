set_option maxHeartbeats 4000000 in
set_option maxRecDepth 100000 in
theorem c_X5_readFactorK2 (l : Launch) (D : va_G) (g : xG) (T : Nat × Nat × Nat) (h0 : Nat) (s0 : xS) (hσ : xRR s0) (q : Int) (rq : xR q) (f9 : Int → Int) (n9 : Int) (qb : Int) (K9 : Int) (b9 : Int) (B9 : Int → Int) (Z : Int × Int × Int × (Int → Int)) (c9 : Int) (C9 : Int → Int) (st : List Int) (s9 : Int) (a9 : Int) (O9 : Int → Int) (V9 : Int → Int) (hq : q = 2) (hf : s0 2 = f9 ∧ s0 1 2 = n9) (hz : zEX f9 n9 qb 0 K9 b9 B9 Z true (s0 1 3) c9 C9 st) (hrd : zRD s0 s9 a9 c9 C9 O9 V9) (hst : qb + zop st = 2) (p0 : IC s0) : Met l yX5_readFactor (xws yX5_readFactor cX5_readFactor 4 (some .boolean)) { frames := 15, cells := 0, slots := 0, locals := 338 } (xP [.ref (h0 + 117), .int (xJ q)] D g T h0 s0) (xQi D g h0 (fun r τ => xFr (fun k => k = 1 ∨ k = 118 ∨ k = 119 ∨ k = 120) s0 τ ∧ (((IC τ) ∧ (τ 1 1 = s0 1 1) ∧ (τ 1 2 = s0 1 2) ∧ True) ∧ ((r = 1 ∧ s0 1 3 + 1 ≤ τ 1 3 ∧ ∃ c2 C2, zEX f9 n9 qb 0 K9 b9 B9 Z false (τ 1 3) c2 C2 st ∧ zRD τ s9 a9 c2 C2 O9 V9) ∨ (r = 0 ∧ Z.1 ≠ 0 ∧ τ 1 4 = Z.1))))) 0 0 (xA h0) := by
  refine x_met hσ (by decide) (Nat.le_of_ble_eq_true rfl) ?_
  intro p e s m args below meth c hx hb hr hml hown hT hlk hnm hE hW ls hl
  have hl : lv_has ls 4 [(0, .ref (h0 + 117)), (1, .int (xJ q))] := hl
  obtain ⟨Q, eQ⟩ : ∃ Q, Q = MQ below (xQi D g h0 (fun r τ => xFr (fun k => k = 1 ∨ k = 118 ∨ k = 119 ∨ k = 120) s0 τ ∧ (((IC τ) ∧ (τ 1 1 = s0 1 1) ∧ (τ 1 2 = s0 1 2) ∧ True) ∧ ((r = 1 ∧ s0 1 3 + 1 ≤ τ 1 3 ∧ ∃ c2 C2, zEX f9 n9 qb 0 K9 b9 B9 Z false (τ 1 3) c2 C2 st ∧ zRD τ s9 a9 c2 C2 O9 V9) ∨ (r = 0 ∧ Z.1 ≠ 0 ∧ τ 1 4 = Z.1))))) args s 0 0 (xA h0) := ⟨_, rfl⟩
  rw [← eQ]
  generalize hHe : ([] : List Loc) = locs at hW ⊢
  obtain ⟨H, eH⟩ : ∃ H, H = s.heap := ⟨_, rfl⟩
  rw [← eH] at hW ⊢
  have hF : xFr (fun k => k = 1 ∨ k = 118 ∨ k = 119 ∨ k = 120) s0 s0 := xFr.rf
  have k1_1 : s0 1 1 = s0 1 1 := rfl
  have k1_2 : s0 1 2 = s0 1 2 := rfl
  have k1_3 : s0 1 3 = s0 1 3 := rfl
  have hb9 := hz.b
  have hrb := hrd.b
  have hsh := hz.sh
  have hf2 := hf.2
  refine x_aload_n hx hb hl 0 rfl dX5_readFactor_0 rfl ?_
  refine x_get (j := 0) (v := .ref (h0 + 1)) hx hb hown hT hE hW cls_X5 (Or.inl (by decide)) (so_117 h0 g _) (by decide) rfl wq293 dX5_readFactor_1 ?_
  refine x_goi (x_runVN (As := []) hx hb hml hown hT hE hW hl.1 (Or.inl (by decide)) (so_1 h0 g _) rfl cf_X8_isDigit wq664 wq19 wn662 (c_X8_isDigitK l D g T h0 s0 hW.2.1 f9 n9 (by first | exact hf | exact ⟨(hF 2 (by omega)).trans hf.1, by omega⟩) (by omega) p0) ⟨rfl, rfl, ⟨by decide, by decide⟩, ⟨by decide, by decide⟩⟩ rfl rfl (Nat.le_of_ble_eq_true rfl) dX5_readFactor_4) hW (fun x1 s2 H locs rx1 hp3 hW => ?_)
  obtain ⟨es2, hp3⟩ := hp3
  subst es2
  have ghp3 := hp3
  have H4 := ghp3
  refine x_if_eq (tgt := 15) hx hb rx1 dX5_readFactor_7 (by decide) (fun c4 => ?_) (fun c4 => ?_)
  · skip
    refine x_aload_n hx hb hl 0 rfl dX5_readFactor_15 rfl ?_
    refine x_get (j := 0) (v := .ref (h0 + 1)) hx hb hown hT hE hW cls_X5 (Or.inl (by decide)) (so_117 h0 g _) (by decide) rfl wq293 dX5_readFactor_16 ?_
    refine x_goi (x_runVN (As := []) hx hb hml hown hT hE hW hl.1 (Or.inl (by decide)) (so_1 h0 g _) rfl cf_X8_sign wq581 wq4 wn641 (c_X8_sign l D g T h0 s0 hW.2.1 p0) ⟨rfl, rfl, ⟨by decide, by decide⟩, ⟨by decide, by decide⟩⟩ rfl rfl (Nat.le_of_ble_eq_true rfl) dX5_readFactor_19) hW (fun x5 s6 H locs rx5 hp7 hW => ?_)
    obtain ⟨es6, hp7⟩ := hp7
    subst es6
    have ghp7 := hp7
    have C19 : x5 = zch f9 n9 (s0 1 3) := zch_i (by have q8 := congrFun (show s0 2 = f9 from hf.1) (s0 1 3); have q9 := hf.2; omega)
    have D19 := (H4.resolve_left (fun q => by omega)).2
    refine lv_istore_n (lv' := [(2, .int (xJ x5)), (0, .ref (h0 + 117)), (1, .int (xJ q))]) hx hb dX5_readFactor_22 rfl hl (by decide) rfl (fun ls hl => ?_)
    refine x_iload_n hx hb hl 0 rfl dX5_readFactor_23 rfl ?_
    refine x_bipush hx hb dX5_readFactor_24 (by decide) ?_
    refine x_icmp_ne (tgt := 92) hx hb rx5 (by decide) dX5_readFactor_26 (by decide) (fun c8 => ?_) (fun c8 => ?_)
    · skip
      refine x_iload_n hx hb hl 0 rfl dX5_readFactor_92 rfl ?_
      refine x_goi (x_runSN (As := [.int (xJ x5)]) hx hb hml hown hT hE hW hl.1 cf_X4_placeOfLetter wq676 wn675 (c_X4_placeOfLetterK l D g T h0 s0 hW.2.1 x5 rx5) ⟨rfl, rfl, ⟨by decide, by decide⟩, ⟨by decide, by decide⟩⟩ rfl rfl (Nat.le_of_ble_eq_true rfl) dX5_readFactor_93) hW (fun x9 s10 H locs rx9 hp11 hW => ?_)
      obtain ⟨es10, hp11⟩ := hp11
      subst es10
      have ghp11 := hp11
      have H93 : x9 = zlt (zch f9 n9 (s0 1 3)) := by have z := zlt_cs (zch f9 n9 (s0 1 3)); omega
      have Z93 := zlt_cs (zch f9 n9 (s0 1 3))
      refine lv_istore_n (lv' := [(3, .int (xJ x9)), (2, .int (xJ x5)), (0, .ref (h0 + 117)), (1, .int (xJ q))]) hx hb dX5_readFactor_96 rfl hl (by decide) rfl (fun ls hl => ?_)
      refine x_iload_n hx hb hl 0 rfl dX5_readFactor_97 rfl ?_
      refine x_iconst hx hb dX5_readFactor_98 ?_
      refine x_icmp_ne (tgt := 118) hx hb rx9 (by decide) dX5_readFactor_99 (by decide) (fun c12 => ?_) (fun c12 => ?_)
      · skip
        refine x_aload_n hx hb hl 2 rfl dX5_readFactor_118 rfl ?_
        refine x_get (j := 0) (v := .ref (h0 + 1)) hx hb hown hT hE hW cls_X5 (Or.inl (by decide)) (so_117 h0 g _) (by decide) rfl wq293 dX5_readFactor_119 ?_
        refine lv_dup hx hb dX5_readFactor_122 rfl ?_
        refine x_getN (j := 3) (v := .int (xJ (s0 1 3))) hx hb hown hT hE hW cls_X8 (Or.inl (by decide)) (so_1 h0 g _) (by decide) rfl wn201 dX5_readFactor_123 ?_
        refine x_rd hW (fun x13 ex13 rx13 => ?_)
        have fx13 : x13 = s0 1 3 := ex13.trans k1_3
        refine x_iconst hx hb dX5_readFactor_126 ?_
        refine x_iadd hx hb dX5_readFactor_127 ?_
        refine x_putN (j := 3) hx hb hown hT hE hW cls_X8 (by decide) (fun σ => so_1 h0 g σ) (by decide) (st_X8_3 h0 s0 1 (x13 + 1)) (ln_X8_3 h0 _ _) wn201 rfl rfl rfl (by omega) dX5_readFactor_128 (fun H locs s14 es14 hW => ?_)
        have q15 : IC s14 := by rw [es14]; exact IC_1 p0 (by omega)
        have q16 : s14 1 1 = s0 1 1 := (show s14 1 1 = s0 1 1 from by rw [es14, xU_j _ _ (by decide)]).trans k1_1
        have q17 : s14 1 2 = s0 1 2 := (show s14 1 2 = s0 1 2 from by rw [es14, xU_j _ _ (by decide)]).trans k1_2
        have q18 : s14 1 3 = (x13 + 1) := by rw [es14, xU_s]
        have hF19 := hF.put es14 (by omega)
        have R128 := hrd.u es14 (by decide)
        refine x_aload_n hx hb hl 2 rfl dX5_readFactor_131 rfl ?_
        refine x_get (j := 1) (v := .ref (h0 + 118)) hx hb hown hT hE hW cls_X5 (Or.inl (by decide)) (so_117 h0 g _) (by decide) rfl wq294 dX5_readFactor_132 ?_
        refine x_iconst hx hb dX5_readFactor_135 ?_
        refine x_iload_n hx hb hl 0 rfl dX5_readFactor_136 rfl ?_
        refine x_goi (x_runVN (As := [.int (xJ 2), .int (xJ x9)]) hx hb hml hown hT hE hW hl.1 (Or.inl (by decide)) (so_118 h0 g _) rfl cf_X4_put wq672 wq21 wn670 (c_X4_putK l D g T h0 s14 hW.2.1 2 (by decide) x9 rx9 q15) ⟨rfl, rfl, ⟨by decide, by decide⟩, ⟨by decide, by decide⟩⟩ rfl rfl (Nat.le_of_ble_eq_true rfl) dX5_readFactor_137) hW (fun x20 s21 H locs rx20 hp22 hW => ?_)
        obtain ⟨fs21, hp22⟩ := hp22
        have hF23 := hF19.call fs21 (fun k h => by omega)
        have q24 : s21 1 1 = s0 1 1 := (congrFun (fs21 _ (by omega)) _).trans q16
        have q25 : s21 1 2 = s0 1 2 := (congrFun (fs21 _ (by omega)) _).trans q17
        have q26 : s21 1 3 = (x13 + 1) := (congrFun (fs21 _ (by omega)) _).trans q18
        have ghp22 := hp22.2
        have H137 := ghp22 (by have y := R128.b; omega)
        refine lv_pop hx hb dX5_readFactor_140 rfl ?_
        refine x_iconst hx hb dX5_readFactor_141 ?_
        rw [eQ]
        exact x_zret hx hb hr hlk hW (by omega) ⟨hF23, ⟨hp22.1.1, q24, q25, trivial⟩, Or.inl ⟨by omega, by omega, c9 + 1, xud C9 c9 (1048576 + zlt (zch f9 n9 (s0 1 3))), hz.let_ (by omega) (by omega) rfl rfl, R128.put H137.2.1 H137.2.2.1 H137.2.2.2 (zom_l rfl (by omega)).1 (by rw [H93]; exact (zom_l rfl (by omega)).2 _) rfl rfl⟩⟩ dX5_readFactor_142
      refine x_aload_n hx hb hl 2 rfl dX5_readFactor_102 rfl ?_
      refine x_get (j := 0) (v := .ref (h0 + 1)) hx hb hown hT hE hW cls_X5 (Or.inl (by decide)) (so_117 h0 g _) (by decide) rfl wq293 dX5_readFactor_103 ?_
      refine x_iconst hx hb dX5_readFactor_106 ?_
      refine x_aload_n hx hb hl 2 rfl dX5_readFactor_107 rfl ?_
      refine x_get (j := 0) (v := .ref (h0 + 1)) hx hb hown hT hE hW cls_X5 (Or.inl (by decide)) (so_117 h0 g _) (by decide) rfl wq293 dX5_readFactor_108 ?_
      refine x_getN (j := 3) (v := .int (xJ (s0 1 3))) hx hb hown hT hE hW cls_X8 (Or.inl (by decide)) (so_1 h0 g _) (by decide) rfl wn201 dX5_readFactor_111 ?_
      refine x_rd hW (fun x27 ex27 rx27 => ?_)
      have fx27 : x27 = s0 1 3 := ex27.trans k1_3
      refine x_goi (x_runVN (As := [.int (xJ 1), .int (xJ x27)]) hx hb hml hown hT hE hW hl.1 (Or.inl (by decide)) (so_1 h0 g _) rfl cf_X8_fails wq588 wq5 wn645 (c_X8_failsM l D g T h0 s0 hW.2.1 1 (by decide) x27 rx27 (by omega) p0) ⟨rfl, rfl, ⟨by decide, by decide⟩, ⟨by decide, by decide⟩⟩ rfl rfl (Nat.le_of_ble_eq_true rfl) dX5_readFactor_114) hW (fun x28 s29 H locs rx28 hp30 hW => ?_)
      obtain ⟨fs29, hp30⟩ := hp30
      have hF31 := hF.call fs29 (fun k h => by omega)
      have ghp30 := hp30.2
      rw [eQ]
      exact x_zret hx hb hr hlk hW (by omega) ⟨hF31, ⟨hp30.1.1, (hp30.1.2.1.trans k1_1), (hp30.1.2.2.1.trans k1_2), trivial⟩, by
    have z := hz.one (by omega) D19 (by omega)
    rw [z]
    exact Or.inr ⟨by omega, (by show (-1000 - _ : Int) ≠ 0; omega), (by show _ = (-1000 - _ : Int); omega)⟩⟩ dX5_readFactor_117
    refine x_iload_n hx hb hl 2 rfl dX5_readFactor_29 rfl ?_
    refine x_bipush hx hb dX5_readFactor_30 (by decide) ?_
    refine x_icmp_lt (tgt := 51) hx hb rq (by decide) dX5_readFactor_32 (by decide) (fun c32 => ?_) (fun c32 => False.elim (by omega))
    refine x_aload_n hx hb hl 1 rfl dX5_readFactor_51 rfl ?_
    refine x_get (j := 0) (v := .ref (h0 + 1)) hx hb hown hT hE hW cls_X5 (Or.inl (by decide)) (so_117 h0 g _) (by decide) rfl wq293 dX5_readFactor_52 ?_
    refine lv_dup hx hb dX5_readFactor_55 rfl ?_
    refine x_getN (j := 3) (v := .int (xJ (s0 1 3))) hx hb hown hT hE hW cls_X8 (Or.inl (by decide)) (so_1 h0 g _) (by decide) rfl wn201 dX5_readFactor_56 ?_
    refine x_rd hW (fun x33 ex33 rx33 => ?_)
    have fx33 : x33 = s0 1 3 := ex33.trans k1_3
    refine x_iconst hx hb dX5_readFactor_59 ?_
    refine x_iadd hx hb dX5_readFactor_60 ?_
    refine x_putN (j := 3) hx hb hown hT hE hW cls_X8 (by decide) (fun σ => so_1 h0 g σ) (by decide) (st_X8_3 h0 s0 1 (x33 + 1)) (ln_X8_3 h0 _ _) wn201 rfl rfl rfl (by omega) dX5_readFactor_61 (fun H locs s34 es34 hW => ?_)
    have q35 : IC s34 := by rw [es34]; exact IC_1 p0 (by omega)
    have q36 : s34 1 1 = s0 1 1 := (show s34 1 1 = s0 1 1 from by rw [es34, xU_j _ _ (by decide)]).trans k1_1
    have q37 : s34 1 2 = s0 1 2 := (show s34 1 2 = s0 1 2 from by rw [es34, xU_j _ _ (by decide)]).trans k1_2
    have q38 : s34 1 3 = (x33 + 1) := by rw [es34, xU_s]
    have hF39 := hF.put es34 (by omega)
    have O61 : zEX f9 n9 qb 0 K9 b9 B9 Z true (s34 1 3) c9 C9 (14680064 :: st) := hz.open_ (by omega) (by omega) (by omega) rfl
    refine x_aload_n hx hb hl 1 rfl dX5_readFactor_64 rfl ?_
    refine x_iload_n hx hb hl 2 rfl dX5_readFactor_65 rfl ?_
    refine x_iconst hx hb dX5_readFactor_66 ?_
    refine x_iadd hx hb dX5_readFactor_67 ?_
    refine x_goi (x_runV (As := [.int (xJ (q + 1))]) hx hb hml hown hT hE hW hl.1 (Or.inl (by decide)) (so_117 h0 g _) rfl cf_X5_readSum wq652 wq16 wq650 (c_X5_readSumK3 l D g T h0 s34 hW.2.1 (q + 1) (by omega) f9 n9 qb K9 b9 B9 Z c9 C9 (14680064 :: st) s9 a9 O9 V9 (by omega) (by first | exact hf | exact ⟨(hF39 2 (by omega)).trans hf.1, by omega⟩) (O61) (hrd.u es34 (by decide)) (by rw [zop_y (by decide)]; omega) (Or.inr (by show (7340032 : Int) ≤ 14680064; decide)) q35) ⟨rfl, rfl, ⟨by decide, by decide⟩, ⟨by decide, by decide⟩⟩ rfl rfl (Nat.le_of_ble_eq_true rfl) dX5_readFactor_68) hW (fun x40 s41 H locs rx40 hp42 hW => ?_)
    obtain ⟨fs41, hp42⟩ := hp42
    have hF43 := hF39.call fs41 (fun k h => by omega)
    have ghp42 := hp42.2
    have H68 := ghp42
    have G68 : s41 2 = f9 ∧ s41 1 2 = n9 := ⟨(hF43 2 (by omega)).trans hf.1, by omega⟩
    refine x_if_eq (tgt := 90) hx hb rx40 dX5_readFactor_71 (by decide) (fun c44 => ?_) (fun c44 => ?_)
    · skip
      refine x_iconst hx hb dX5_readFactor_90 ?_
      rw [eQ]
      exact x_zret hx hb hr hlk hW (by omega) ⟨hF43, ⟨hp42.1.1, (hp42.1.2.1.trans q36), (hp42.1.2.2.1.trans q37), trivial⟩, by first | exact H68.elim (fun q => absurd q.1 (by omega)) (fun q => Or.inr ⟨by omega, q.2⟩) | exact Or.inl ⟨by omega, by omega, c2, C2, hz2.shut (by show (7340032 : Int) ≤ 14680064; decide) (by omega) (by omega), hr2.f (congrFun (fs41 118 (by omega)) 2) (fs41 119 (by omega)) (fs41 120 (by omega))⟩ | (have z := zEX.bad _ _ _ hz2 (by rw [zop_y (by decide)]; have := zop_n st; omega) (by omega) (by omega); exact Or.inr ⟨by omega, by omega, by omega⟩)⟩ dX5_readFactor_91
    refine x_aload_n hx hb hl 1 rfl dX5_readFactor_74 rfl ?_
    obtain ⟨c2, C2, hz2, hr2⟩ := (H68.resolve_right (fun q => by omega)).2.2.2
    have w68 := hz2.b
    refine x_get (j := 0) (v := .ref (h0 + 1)) hx hb hown hT hE hW cls_X5 (Or.inl (by decide)) (so_117 h0 g _) (by decide) rfl wq293 dX5_readFactor_75 ?_
    refine x_bipush hx hb dX5_readFactor_78 (by decide) ?_
    refine x_goi (x_runVN (As := [.int (xJ 93)]) hx hb hml hown hT hE hW hl.1 (Or.inl (by decide)) (so_1 h0 g _) rfl cf_X8_passes wq598 wq6 wn674 (c_X8_passesM l D g T h0 s41 hW.2.1 93 (by decide) (by omega) (by omega) hp42.1.1) ⟨rfl, rfl, ⟨by decide, by decide⟩, ⟨by decide, by decide⟩⟩ rfl rfl (Nat.le_of_ble_eq_true rfl) dX5_readFactor_80) hW (fun x45 s46 H locs rx45 hp47 hW => ?_)
    obtain ⟨fs46, hp47⟩ := hp47
    have hF48 := hF43.call fs46 (fun k h => by omega)
    have ghp47 := hp47.2
    have H80 := ghp47
    rw [G68.1, G68.2] at H80
    refine x_if_eq (tgt := 90) hx hb rx45 dX5_readFactor_83 (by decide) (fun c49 => ?_) (fun c49 => ?_)
    · skip
      refine x_iconst hx hb dX5_readFactor_90 ?_
      rw [eQ]
      exact x_zret hx hb hr hlk hW (by omega) ⟨hF48, ⟨hp47.1.1, (hp47.1.2.1.trans (hp42.1.2.1.trans q36)), (hp47.1.2.2.1.trans (hp42.1.2.2.1.trans q37)), trivial⟩, by first | exact H68.elim (fun q => absurd q.1 (by omega)) (fun q => Or.inr ⟨by omega, q.2⟩) | exact Or.inl ⟨by omega, by omega, c2, C2, hz2.shut (by show (7340032 : Int) ≤ 14680064; decide) (by omega) (by omega), hr2.f (congrFun (fs46 118 (by omega)) 2) (fs46 119 (by omega)) (fs46 120 (by omega))⟩ | (have z := zEX.bad _ _ _ hz2 (by rw [zop_y (by decide)]; have := zop_n st; omega) (by omega) (by omega); exact Or.inr ⟨by omega, by omega, by omega⟩)⟩ dX5_readFactor_91
    refine x_iconst hx hb dX5_readFactor_86 ?_
    refine lv_goto (tgt := 91) hx hb dX5_readFactor_87 (by decide) ?_
    rw [eQ]
    exact x_zret hx hb hr hlk hW (by omega) ⟨hF48, ⟨hp47.1.1, (hp47.1.2.1.trans (hp42.1.2.1.trans q36)), (hp47.1.2.2.1.trans (hp42.1.2.2.1.trans q37)), trivial⟩, by first | exact H68.elim (fun q => absurd q.1 (by omega)) (fun q => Or.inr ⟨by omega, q.2⟩) | exact Or.inl ⟨by omega, by omega, c2, C2, hz2.shut (by show (7340032 : Int) ≤ 14680064; decide) (by omega) (by omega), hr2.f (congrFun (fs46 118 (by omega)) 2) (fs46 119 (by omega)) (fs46 120 (by omega))⟩ | (have z := zEX.bad _ _ _ hz2 (by rw [zop_y (by decide)]; have := zop_n st; omega) (by omega) (by omega); exact Or.inr ⟨by omega, by omega, by omega⟩)⟩ dX5_readFactor_91
  refine x_aload_n hx hb hl 0 rfl dX5_readFactor_10 rfl ?_
  refine x_goi (x_runV (As := []) hx hb hml hown hT hE hW hl.1 (Or.inl (by decide)) (so_117 h0 g _) rfl cf_X5_readNumber wq668 wq20 wq666 (c_X5_readNumberK l D g T h0 s0 hW.2.1 f9 n9 qb K9 b9 B9 Z c9 C9 st s9 a9 O9 V9 (by first | exact hf | exact ⟨(hF 2 (by omega)).trans hf.1, by omega⟩) (hz) (hrd) ((H4.resolve_right (fun q => by omega)).2) p0) ⟨rfl, rfl, ⟨by decide, by decide⟩, ⟨by decide, by decide⟩⟩ rfl rfl (Nat.le_of_ble_eq_true rfl) dX5_readFactor_11) hW (fun x50 s51 H locs rx50 hp52 hW => ?_)
  obtain ⟨fs51, hp52⟩ := hp52
  have hF53 := hF.call fs51 (fun k h => by omega)
  have ghp52 := hp52.2
  have H11 := ghp52
  rw [eQ]
  exact x_zret hx hb hr hlk hW (by omega) ⟨hF53, ⟨hp52.1.1, (hp52.1.2.1.trans k1_1), (hp52.1.2.2.1.trans k1_2), trivial⟩, by first | exact H11 | exact H11.elim (fun q => Or.inl q) Or.inr⟩ dX5_readFactor_14
set_option maxHeartbeats 4000000 in
set_option maxRecDepth 100000 in
theorem c_X5_readTermK2 (l : Launch) (D : va_G) (g : xG) (T : Nat × Nat × Nat) (h0 : Nat) (s0 : xS) (hσ : xRR s0) (q : Int) (rq : xR q) (f9 : Int → Int) (n9 : Int) (qb : Int) (K9 : Int) (b9 : Int) (B9 : Int → Int) (Z : Int × Int × Int × (Int → Int)) (c9 : Int) (C9 : Int → Int) (st : List Int) (s9 : Int) (a9 : Int) (O9 : Int → Int) (V9 : Int → Int) (hq : q = 2) (hf : s0 2 = f9 ∧ s0 1 2 = n9) (hz : zEX f9 n9 qb 0 K9 b9 B9 Z true (s0 1 3) c9 C9 st) (hrd : zRD s0 s9 a9 c9 C9 O9 V9) (hst : qb + zop st = 2) (ht : ztp st < 4194304 ∨ 7340032 ≤ ztp st) (p0 : IC s0) : Met l yX5_readTerm (xws yX5_readTerm cX5_readTerm 4 (some .boolean)) { frames := 16, cells := 0, slots := 0, locals := 361 } (xP [.ref (h0 + 117), .int (xJ q)] D g T h0 s0) (xQi D g h0 (fun r τ => xFr (fun k => k = 1 ∨ k = 118 ∨ k = 119 ∨ k = 120) s0 τ ∧ (((IC τ) ∧ (τ 1 1 = s0 1 1) ∧ (τ 1 2 = s0 1 2) ∧ True) ∧ ((r = 1 ∧ s0 1 3 + 1 ≤ τ 1 3 ∧ zsg (zch f9 n9 (τ 1 3)) < 4 ∧ ∃ c2 C2, zEX f9 n9 qb 0 K9 b9 B9 Z false (τ 1 3) c2 C2 st ∧ zRD τ s9 a9 c2 C2 O9 V9) ∨ (r = 0 ∧ Z.1 ≠ 0 ∧ τ 1 4 = Z.1))))) 0 0 (xA h0) := by
  refine x_met hσ (by decide) (Nat.le_of_ble_eq_true rfl) ?_
  intro p e s m args below meth c hx hb hr hml hown hT hlk hnm hE hW ls hl
  have hl : lv_has ls 4 [(0, .ref (h0 + 117)), (1, .int (xJ q))] := hl
  obtain ⟨Q, eQ⟩ : ∃ Q, Q = MQ below (xQi D g h0 (fun r τ => xFr (fun k => k = 1 ∨ k = 118 ∨ k = 119 ∨ k = 120) s0 τ ∧ (((IC τ) ∧ (τ 1 1 = s0 1 1) ∧ (τ 1 2 = s0 1 2) ∧ True) ∧ ((r = 1 ∧ s0 1 3 + 1 ≤ τ 1 3 ∧ zsg (zch f9 n9 (τ 1 3)) < 4 ∧ ∃ c2 C2, zEX f9 n9 qb 0 K9 b9 B9 Z false (τ 1 3) c2 C2 st ∧ zRD τ s9 a9 c2 C2 O9 V9) ∨ (r = 0 ∧ Z.1 ≠ 0 ∧ τ 1 4 = Z.1))))) args s 0 0 (xA h0) := ⟨_, rfl⟩
  rw [← eQ]
  generalize hHe : ([] : List Loc) = locs at hW ⊢
  obtain ⟨H, eH⟩ : ∃ H, H = s.heap := ⟨_, rfl⟩
  rw [← eH] at hW ⊢
  have hF : xFr (fun k => k = 1 ∨ k = 118 ∨ k = 119 ∨ k = 120) s0 s0 := xFr.rf
  have k1_1 : s0 1 1 = s0 1 1 := rfl
  have k1_2 : s0 1 2 = s0 1 2 := rfl
  have k1_3 : s0 1 3 = s0 1 3 := rfl
  have hb9 := hz.b
  have hrb := hrd.b
  have hsh := hz.sh
  have hf2 := hf.2
  refine x_aload_n hx hb hl 0 rfl dX5_readTerm_0 rfl ?_
  refine x_iload_n hx hb hl 1 rfl dX5_readTerm_1 rfl ?_
  refine x_goi (x_runV (As := [.int (xJ q)]) hx hb hml hown hT hE hW hl.1 (Or.inl (by decide)) (so_117 h0 g _) rfl cf_X5_readFactor wq660 wq18 wq658 (c_X5_readFactorK2 l D g T h0 s0 hW.2.1 q rq f9 n9 qb K9 b9 B9 Z c9 C9 st s9 a9 O9 V9 (by omega) (by first | exact hf | exact ⟨(hF 2 (by omega)).trans hf.1, by omega⟩) (hz) (hrd) (hst) p0) ⟨rfl, rfl, ⟨by decide, by decide⟩, ⟨by decide, by decide⟩⟩ rfl rfl (Nat.le_of_ble_eq_true rfl) dX5_readTerm_2) hW (fun x1 s2 H locs rx1 hp3 hW => ?_)
  obtain ⟨fs2, hp3⟩ := hp3
  have hF4 := hF.call fs2 (fun k h => by omega)
  have ghp3 := hp3.2
  have H2 := ghp3
  refine x_if_ne (tgt := 10) hx hb rx1 dX5_readTerm_5 (by decide) (fun c5 => ?_) (fun c5 => ?_)
  · skip
    refine x_iconst hx hb dX5_readTerm_10 ?_
    refine lv_istore_n (lv' := [(2, .int (xJ 0)), (0, .ref (h0 + 117)), (1, .int (xJ q))]) hx hb dX5_readTerm_11 rfl hl (by decide) rfl (fun ls hl => ?_)
    have L12 : ∀ (fu : Nat) (i2_12 : Int) (s_12 : xS) (H : Heap) (locs : List Loc) (ls : Array Slot), (xR i2_12) → (xFr (fun k => k = 1 ∨ k = 118 ∨ k = 119 ∨ k = 120) s0 s_12) → (IC s_12) → (s_12 1 1 = s0 1 1) → (s_12 1 2 = s0 1 2) → (0 ≤ i2_12 ∧ i2_12 + s0 1 3 + 1 ≤ s_12 1 3) → (∃ c2 C2, zEX f9 n9 qb 0 K9 b9 B9 Z false (s_12 1 3) c2 C2 st ∧ zRD s_12 s9 a9 c2 C2 O9 V9) → (300 - i2_12).toNat < fu → xW D g h0 s H locs s_12 → lv_has ls 4 [(0, .ref (h0 + 117)), (1, .int (xJ q)), (2, .int (xJ i2_12))] → W p l e { frames := 16, cells := 0, slots := 0, locals := 361 } s m args below meth c H locs 0 0 Q (F0 m 12 ls []) := by
      intro fu
      induction fu with
      | zero => intro i2_12 s_12 H locs ls ri2_12 hF_12 q12_0 q12_1 q12_2 v12_0 v12_1 hm; exact absurd hm (Nat.not_lt_zero _)
      | succ fu ih12 =>
        intro i2_12 s_12 H locs ls ri2_12 hF_12 q12_0 q12_1 q12_2 v12_0 v12_1 hm hW hl
        obtain ⟨c2, C2, hz2, hr2⟩ := v12_1
        have w12 := hz2.b
        refine x_iload_n hx hb hl 2 rfl dX5_readTerm_12 rfl ?_
        refine x_sipush hx hb dX5_readTerm_13 (by decide) ?_
        refine x_icmp_ge (tgt := 86) hx hb ri2_12 (by decide) dX5_readTerm_16 (by decide) (fun c6 => False.elim (by omega)) (fun c6 => ?_)
        refine x_aload_n hx hb hl 0 rfl dX5_readTerm_19 rfl ?_
        refine x_get (j := 0) (v := .ref (h0 + 1)) hx hb hown hT hE hW cls_X5 (Or.inl (by decide)) (so_117 h0 g _) (by decide) rfl wq293 dX5_readTerm_20 ?_
        refine x_goi (x_runVN (As := []) hx hb hml hown hT hE hW hl.1 (Or.inl (by decide)) (so_1 h0 g _) rfl cf_X8_sign wq581 wq4 wn641 (c_X8_sign l D g T h0 s_12 hW.2.1 q12_0) ⟨rfl, rfl, ⟨by decide, by decide⟩, ⟨by decide, by decide⟩⟩ rfl rfl (Nat.le_of_ble_eq_true rfl) dX5_readTerm_23) hW (fun x7 s8 H locs rx7 hp9 hW => ?_)
        obtain ⟨es8, hp9⟩ := hp9
        subst es8
        have ghp9 := hp9
        have C23 : x7 = zch f9 n9 (s_12 1 3) := zch_i (by have q8 := congrFun (show s_12 2 = f9 from (hF_12 2 (by omega)).trans hf.1) (s_12 1 3); have q9 := hf.2; omega)
        have Z12 := zsg_cs (zch f9 n9 (s_12 1 3))
        refine lv_istore_n (lv' := [(3, .int (xJ x7)), (0, .ref (h0 + 117)), (1, .int (xJ q)), (2, .int (xJ i2_12))]) hx hb dX5_readTerm_26 rfl hl (by decide) rfl (fun ls hl => ?_)
        refine x_iload_n hx hb hl 0 rfl dX5_readTerm_27 rfl ?_
        refine x_bipush hx hb dX5_readTerm_28 (by decide) ?_
        have J47 : ∀ (ls : Array Slot), (x7 = 42 ∨ x7 = 47 ∨ x7 = 37) → lv_has ls 4 [(0, .ref (h0 + 117)), (1, .int (xJ q)), (2, .int (xJ i2_12)), (3, .int (xJ x7))] → W p l e { frames := 16, cells := 0, slots := 0, locals := 361 } s m args below meth c H locs 0 0 Q (F0 m 47 ls []) := by
          intro ls v47_0  hl
          refine x_aload_n hx hb hl 0 rfl dX5_readTerm_47 rfl ?_
          refine x_get (j := 0) (v := .ref (h0 + 1)) hx hb hown hT hE hW cls_X5 (Or.inl (by decide)) (so_117 h0 g _) (by decide) rfl wq293 dX5_readTerm_48 ?_
          refine lv_dup hx hb dX5_readTerm_51 rfl ?_
          refine x_getN (j := 3) (v := .int (xJ (s_12 1 3))) hx hb hown hT hE hW cls_X8 (Or.inl (by decide)) (so_1 h0 g _) (by decide) rfl wn201 dX5_readTerm_52 ?_
          refine x_rd hW (fun x10 ex10 rx10 => ?_)
          refine x_iconst hx hb dX5_readTerm_55 ?_
          refine x_iadd hx hb dX5_readTerm_56 ?_
          refine x_putN (j := 3) hx hb hown hT hE hW cls_X8 (by decide) (fun σ => so_1 h0 g σ) (by decide) (st_X8_3 h0 s_12 1 (x10 + 1)) (ln_X8_3 h0 _ _) wn201 rfl rfl rfl (by omega) dX5_readTerm_57 (fun H locs s11 es11 hW => ?_)
          have q12 : IC s11 := by rw [es11]; exact IC_1 q12_0 (by omega)
          have q13 : s11 1 1 = s0 1 1 := (show s11 1 1 = s_12 1 1 from by rw [es11, xU_j _ _ (by decide)]).trans q12_1
          have q14 : s11 1 2 = s0 1 2 := (show s11 1 2 = s_12 1 2 from by rw [es11, xU_j _ _ (by decide)]).trans q12_2
          have q15 : s11 1 3 = (x10 + 1) := by rw [es11, xU_s]
          have hF16 := hF_12.put es11 (by omega)
          have O57 : zEX f9 n9 qb 0 K9 b9 B9 Z true (s11 1 3) c2 C2 ((1048576 * zsg (zch f9 n9 (s_12 1 3))) :: st) := hz2.sgm ht (by omega) (by omega) rfl
          refine x_aload_n hx hb hl 0 rfl dX5_readTerm_60 rfl ?_
          refine x_iload_n hx hb hl 1 rfl dX5_readTerm_61 rfl ?_
          refine x_goi (x_runV (As := [.int (xJ q)]) hx hb hml hown hT hE hW hl.1 (Or.inl (by decide)) (so_117 h0 g _) rfl cf_X5_readFactor wq660 wq18 wq658 (c_X5_readFactorK2 l D g T h0 s11 hW.2.1 q rq f9 n9 qb K9 b9 B9 Z c2 C2 ((1048576 * zsg (zch f9 n9 (s_12 1 3))) :: st) s9 a9 O9 V9 (by omega) (by first | exact hf | exact ⟨(hF16 2 (by omega)).trans hf.1, by omega⟩) (O57) (hr2.u es11 (by decide)) (by rw [zop_z (by omega)]; omega) q12) ⟨rfl, rfl, ⟨by decide, by decide⟩, ⟨by decide, by decide⟩⟩ rfl rfl (Nat.le_of_ble_eq_true rfl) dX5_readTerm_62) hW (fun x17 s18 H locs rx17 hp19 hW => ?_)
          obtain ⟨fs18, hp19⟩ := hp19
          have hF20 := hF16.call fs18 (fun k h => by omega)
          have ghp19 := hp19.2
          have H62 := ghp19
          refine x_if_ne (tgt := 70) hx hb rx17 dX5_readTerm_65 (by decide) (fun c21 => ?_) (fun c21 => ?_)
          · skip
            refine x_aload_n hx hb hl 0 rfl dX5_readTerm_70 rfl ?_
            refine x_get (j := 1) (v := .ref (h0 + 118)) hx hb hown hT hE hW cls_X5 (Or.inl (by decide)) (so_117 h0 g _) (by decide) rfl wq294 dX5_readTerm_71 ?_
            obtain ⟨c3, C3, hz3, hr3⟩ := (H62.resolve_right (fun q => by omega)).2.2
            have w3 := hz3.b
            have z3 := zsg_cs (zch f9 n9 (s18 1 3))
            refine x_iload_n hx hb hl 3 rfl dX5_readTerm_74 rfl ?_
            refine x_iconst hx hb dX5_readTerm_75 ?_
            refine x_goi (x_runVN (As := [.int (xJ x7), .int (xJ 0)]) hx hb hml hown hT hE hW hl.1 (Or.inl (by decide)) (so_118 h0 g _) rfl cf_X4_put wq672 wq21 wn670 (c_X4_putK l D g T h0 s18 hW.2.1 x7 rx7 0 (by decide) hp19.1.1) ⟨rfl, rfl, ⟨by decide, by decide⟩, ⟨by decide, by decide⟩⟩ rfl rfl (Nat.le_of_ble_eq_true rfl) dX5_readTerm_76) hW (fun x22 s23 H locs rx22 hp24 hW => ?_)
            obtain ⟨fs23, hp24⟩ := hp24
            have hF25 := hF20.call fs23 (fun k h => by omega)
            have q26 : s23 1 1 = s0 1 1 := (congrFun (fs23 _ (by omega)) _).trans (hp19.1.2.1.trans q13)
            have q27 : s23 1 2 = s0 1 2 := (congrFun (fs23 _ (by omega)) _).trans (hp19.1.2.2.1.trans q14)
            have ghp24 := hp24.2
            have H76 := ghp24 (by have y := hr3.b; omega)
            have M76 := zom_sg (x := zch f9 n9 (s_12 1 3)) rfl (by omega)
            have P76 : s23 1 3 = s18 1 3 := congrFun (fs23 1 (by omega)) 3
            have X76 : ∃ c2 C2, zEX f9 n9 qb 0 K9 b9 B9 Z false (s23 1 3) c2 C2 st ∧ zRD s23 s9 a9 c2 C2 O9 V9 := ⟨c3 + 1, xud C3 c3 (1048576 * zsg (zch f9 n9 (s_12 1 3))), by rw [P76]; exact hz3.mul (by omega) rfl rfl, hr3.put H76.2.1 H76.2.2.1 H76.2.2.2 (C23.trans M76.1) (M76.2 _) rfl rfl⟩
            refine lv_pop hx hb dX5_readTerm_79 rfl ?_
            refine x_iinc (lv' := [(2, .int (xJ (i2_12 + 1))), (0, .ref (h0 + 117)), (1, .int (xJ q)), (3, .int (xJ x7))]) hx hb hl 2 rfl dX5_readTerm_80 (by decide) rfl (fun ls hl => ?_)
            refine lv_goto (tgt := 12) hx hb dX5_readTerm_83 (by decide) ?_
            exact ih12 (i2_12 + 1) s23 H locs ls (by omega) hF25 hp24.1.1 q26 q27 (by omega) (X76) (by omega) hW (lv_sub hl [1, 2, 0] rfl)
          refine x_iconst hx hb dX5_readTerm_68 ?_
          rw [eQ]
          exact x_zret hx hb hr hlk hW (by omega) ⟨hF20, ⟨hp19.1.1, (hp19.1.2.1.trans q13), (hp19.1.2.2.1.trans q14), trivial⟩, H62.elim (fun q => absurd q.1 (by omega)) (fun q => Or.inr ⟨by omega, q.2⟩)⟩ dX5_readTerm_69
        refine x_icmp_eq (tgt := 47) hx hb rx7 (by decide) dX5_readTerm_30 (by decide) (fun c28 => ?_) (fun c28 => ?_)
        · skip
          exact J47 ls (by omega)  (lv_sub hl [1, 2, 3, 0] rfl)
        refine x_iload_n hx hb hl 0 rfl dX5_readTerm_33 rfl ?_
        refine x_bipush hx hb dX5_readTerm_34 (by decide) ?_
        refine x_icmp_eq (tgt := 47) hx hb rx7 (by decide) dX5_readTerm_36 (by decide) (fun c29 => ?_) (fun c29 => ?_)
        · skip
          exact J47 ls (by omega)  (lv_sub hl [1, 2, 3, 0] rfl)
        refine x_iload_n hx hb hl 0 rfl dX5_readTerm_39 rfl ?_
        refine x_bipush hx hb dX5_readTerm_40 (by decide) ?_
        refine x_icmp_eq (tgt := 47) hx hb rx7 (by decide) dX5_readTerm_42 (by decide) (fun c30 => ?_) (fun c30 => ?_)
        · skip
          exact J47 ls (by omega)  (lv_sub hl [1, 2, 3, 0] rfl)
        refine x_iconst hx hb dX5_readTerm_45 ?_
        rw [eQ]
        exact x_zret hx hb hr hlk hW (by omega) ⟨hF_12, ⟨q12_0, q12_1, q12_2, trivial⟩, Or.inl ⟨by omega, by omega, by omega, c2, C2, hz2, hr2⟩⟩ dX5_readTerm_46
    exact L12 ((300 - 0 : Int).toNat + 1) 0 s2 H locs ls (by decide) hF4 hp3.1.1 (hp3.1.2.1.trans k1_1) (hp3.1.2.2.1.trans k1_2) (by omega) ((H2.resolve_right (fun q => by omega)).2.2) (Nat.lt_succ_self _) hW (lv_sub hl [1, 2, 0] rfl)
  refine x_iconst hx hb dX5_readTerm_8 ?_
  rw [eQ]
  exact x_zret hx hb hr hlk hW (by omega) ⟨hF4, ⟨hp3.1.1, (hp3.1.2.1.trans k1_1), (hp3.1.2.2.1.trans k1_2), trivial⟩, H2.elim (fun q => absurd q.1 (by omega)) (fun q => Or.inr ⟨by omega, q.2⟩)⟩ dX5_readTerm_9
set_option maxHeartbeats 4000000 in
set_option maxRecDepth 100000 in
theorem c_X5_readSumK2 (l : Launch) (D : va_G) (g : xG) (T : Nat × Nat × Nat) (h0 : Nat) (s0 : xS) (hσ : xRR s0) (q : Int) (rq : xR q) (f9 : Int → Int) (n9 : Int) (qb : Int) (K9 : Int) (b9 : Int) (B9 : Int → Int) (Z : Int × Int × Int × (Int → Int)) (c9 : Int) (C9 : Int → Int) (st : List Int) (s9 : Int) (a9 : Int) (O9 : Int → Int) (V9 : Int → Int) (hq : q = 2) (hf : s0 2 = f9 ∧ s0 1 2 = n9) (hz : zEX f9 n9 qb 0 K9 b9 B9 Z true (s0 1 3) c9 C9 st) (hrd : zRD s0 s9 a9 c9 C9 O9 V9) (hst : qb + zop st = 2) (ht : ztp st < 0 ∨ 7340032 ≤ ztp st) (p0 : IC s0) : Met l yX5_readSum (xws yX5_readSum cX5_readSum 4 (some .boolean)) { frames := 17, cells := 0, slots := 0, locals := 384 } (xP [.ref (h0 + 117), .int (xJ q)] D g T h0 s0) (xQi D g h0 (fun r τ => xFr (fun k => k = 1 ∨ k = 118 ∨ k = 119 ∨ k = 120) s0 τ ∧ (((IC τ) ∧ (τ 1 1 = s0 1 1) ∧ (τ 1 2 = s0 1 2) ∧ True) ∧ ((r = 1 ∧ s0 1 3 + 1 ≤ τ 1 3 ∧ zsg (zch f9 n9 (τ 1 3)) < 2 ∧ ∃ c2 C2, zEX f9 n9 qb 0 K9 b9 B9 Z false (τ 1 3) c2 C2 st ∧ zRD τ s9 a9 c2 C2 O9 V9) ∨ (r = 0 ∧ Z.1 ≠ 0 ∧ τ 1 4 = Z.1))))) 0 0 (xA h0) := by
  refine x_met hσ (by decide) (Nat.le_of_ble_eq_true rfl) ?_
  intro p e s m args below meth c hx hb hr hml hown hT hlk hnm hE hW ls hl
  have hl : lv_has ls 4 [(0, .ref (h0 + 117)), (1, .int (xJ q))] := hl
  obtain ⟨Q, eQ⟩ : ∃ Q, Q = MQ below (xQi D g h0 (fun r τ => xFr (fun k => k = 1 ∨ k = 118 ∨ k = 119 ∨ k = 120) s0 τ ∧ (((IC τ) ∧ (τ 1 1 = s0 1 1) ∧ (τ 1 2 = s0 1 2) ∧ True) ∧ ((r = 1 ∧ s0 1 3 + 1 ≤ τ 1 3 ∧ zsg (zch f9 n9 (τ 1 3)) < 2 ∧ ∃ c2 C2, zEX f9 n9 qb 0 K9 b9 B9 Z false (τ 1 3) c2 C2 st ∧ zRD τ s9 a9 c2 C2 O9 V9) ∨ (r = 0 ∧ Z.1 ≠ 0 ∧ τ 1 4 = Z.1))))) args s 0 0 (xA h0) := ⟨_, rfl⟩
  rw [← eQ]
  generalize hHe : ([] : List Loc) = locs at hW ⊢
  obtain ⟨H, eH⟩ : ∃ H, H = s.heap := ⟨_, rfl⟩
  rw [← eH] at hW ⊢
  have hF : xFr (fun k => k = 1 ∨ k = 118 ∨ k = 119 ∨ k = 120) s0 s0 := xFr.rf
  have k1_1 : s0 1 1 = s0 1 1 := rfl
  have k1_2 : s0 1 2 = s0 1 2 := rfl
  have k1_3 : s0 1 3 = s0 1 3 := rfl
  have hb9 := hz.b
  have hrb := hrd.b
  have hsh := hz.sh
  have hf2 := hf.2
  refine x_aload_n hx hb hl 0 rfl dX5_readSum_0 rfl ?_
  refine x_iload_n hx hb hl 1 rfl dX5_readSum_1 rfl ?_
  refine x_goi (x_runV (As := [.int (xJ q)]) hx hb hml hown hT hE hW hl.1 (Or.inl (by decide)) (so_117 h0 g _) rfl cf_X5_readTerm wq656 wq17 wq654 (c_X5_readTermK2 l D g T h0 s0 hW.2.1 q rq f9 n9 qb K9 b9 B9 Z c9 C9 st s9 a9 O9 V9 (by omega) (by first | exact hf | exact ⟨(hF 2 (by omega)).trans hf.1, by omega⟩) (hz) (hrd) (hst) (by omega) p0) ⟨rfl, rfl, ⟨by decide, by decide⟩, ⟨by decide, by decide⟩⟩ rfl rfl (Nat.le_of_ble_eq_true rfl) dX5_readSum_2) hW (fun x1 s2 H locs rx1 hp3 hW => ?_)
  obtain ⟨fs2, hp3⟩ := hp3
  have hF4 := hF.call fs2 (fun k h => by omega)
  have ghp3 := hp3.2
  have H2 := ghp3
  refine x_if_ne (tgt := 10) hx hb rx1 dX5_readSum_5 (by decide) (fun c5 => ?_) (fun c5 => ?_)
  · skip
    refine x_iconst hx hb dX5_readSum_10 ?_
    refine lv_istore_n (lv' := [(2, .int (xJ 0)), (0, .ref (h0 + 117)), (1, .int (xJ q))]) hx hb dX5_readSum_11 rfl hl (by decide) rfl (fun ls hl => ?_)
    have L12 : ∀ (fu : Nat) (i2_12 : Int) (s_12 : xS) (H : Heap) (locs : List Loc) (ls : Array Slot), (xR i2_12) → (xFr (fun k => k = 1 ∨ k = 118 ∨ k = 119 ∨ k = 120) s0 s_12) → (IC s_12) → (s_12 1 1 = s0 1 1) → (s_12 1 2 = s0 1 2) → (0 ≤ i2_12 ∧ i2_12 + s0 1 3 + 1 ≤ s_12 1 3) → (∃ c2 C2, zEX f9 n9 qb 0 K9 b9 B9 Z false (s_12 1 3) c2 C2 st ∧ zRD s_12 s9 a9 c2 C2 O9 V9) → (zsg (zch f9 n9 (s_12 1 3)) < 4) → (300 - i2_12).toNat < fu → xW D g h0 s H locs s_12 → lv_has ls 4 [(0, .ref (h0 + 117)), (1, .int (xJ q)), (2, .int (xJ i2_12))] → W p l e { frames := 17, cells := 0, slots := 0, locals := 384 } s m args below meth c H locs 0 0 Q (F0 m 12 ls []) := by
      intro fu
      induction fu with
      | zero => intro i2_12 s_12 H locs ls ri2_12 hF_12 q12_0 q12_1 q12_2 v12_0 v12_1 v12_2 hm; exact absurd hm (Nat.not_lt_zero _)
      | succ fu ih12 =>
        intro i2_12 s_12 H locs ls ri2_12 hF_12 q12_0 q12_1 q12_2 v12_0 v12_1 v12_2 hm hW hl
        obtain ⟨c2, C2, hz2, hr2⟩ := v12_1
        have w12 := hz2.b
        refine x_iload_n hx hb hl 2 rfl dX5_readSum_12 rfl ?_
        refine x_sipush hx hb dX5_readSum_13 (by decide) ?_
        refine x_icmp_ge (tgt := 80) hx hb ri2_12 (by decide) dX5_readSum_16 (by decide) (fun c6 => False.elim (by omega)) (fun c6 => ?_)
        refine x_aload_n hx hb hl 0 rfl dX5_readSum_19 rfl ?_
        refine x_get (j := 0) (v := .ref (h0 + 1)) hx hb hown hT hE hW cls_X5 (Or.inl (by decide)) (so_117 h0 g _) (by decide) rfl wq293 dX5_readSum_20 ?_
        refine x_goi (x_runVN (As := []) hx hb hml hown hT hE hW hl.1 (Or.inl (by decide)) (so_1 h0 g _) rfl cf_X8_sign wq581 wq4 wn641 (c_X8_sign l D g T h0 s_12 hW.2.1 q12_0) ⟨rfl, rfl, ⟨by decide, by decide⟩, ⟨by decide, by decide⟩⟩ rfl rfl (Nat.le_of_ble_eq_true rfl) dX5_readSum_23) hW (fun x7 s8 H locs rx7 hp9 hW => ?_)
        obtain ⟨es8, hp9⟩ := hp9
        subst es8
        have ghp9 := hp9
        have C23 : x7 = zch f9 n9 (s_12 1 3) := zch_i (by have q8 := congrFun (show s_12 2 = f9 from (hF_12 2 (by omega)).trans hf.1) (s_12 1 3); have q9 := hf.2; omega)
        have Z12 := zsg_cs (zch f9 n9 (s_12 1 3))
        refine lv_istore_n (lv' := [(3, .int (xJ x7)), (0, .ref (h0 + 117)), (1, .int (xJ q)), (2, .int (xJ i2_12))]) hx hb dX5_readSum_26 rfl hl (by decide) rfl (fun ls hl => ?_)
        refine x_iload_n hx hb hl 0 rfl dX5_readSum_27 rfl ?_
        refine x_bipush hx hb dX5_readSum_28 (by decide) ?_
        have J41 : ∀ (ls : Array Slot), (x7 = 43 ∨ x7 = 45) → lv_has ls 4 [(0, .ref (h0 + 117)), (1, .int (xJ q)), (2, .int (xJ i2_12)), (3, .int (xJ x7))] → W p l e { frames := 17, cells := 0, slots := 0, locals := 384 } s m args below meth c H locs 0 0 Q (F0 m 41 ls []) := by
          intro ls v41_0  hl
          refine x_aload_n hx hb hl 0 rfl dX5_readSum_41 rfl ?_
          refine x_get (j := 0) (v := .ref (h0 + 1)) hx hb hown hT hE hW cls_X5 (Or.inl (by decide)) (so_117 h0 g _) (by decide) rfl wq293 dX5_readSum_42 ?_
          refine lv_dup hx hb dX5_readSum_45 rfl ?_
          refine x_getN (j := 3) (v := .int (xJ (s_12 1 3))) hx hb hown hT hE hW cls_X8 (Or.inl (by decide)) (so_1 h0 g _) (by decide) rfl wn201 dX5_readSum_46 ?_
          refine x_rd hW (fun x10 ex10 rx10 => ?_)
          refine x_iconst hx hb dX5_readSum_49 ?_
          refine x_iadd hx hb dX5_readSum_50 ?_
          refine x_putN (j := 3) hx hb hown hT hE hW cls_X8 (by decide) (fun σ => so_1 h0 g σ) (by decide) (st_X8_3 h0 s_12 1 (x10 + 1)) (ln_X8_3 h0 _ _) wn201 rfl rfl rfl (by omega) dX5_readSum_51 (fun H locs s11 es11 hW => ?_)
          have q12 : IC s11 := by rw [es11]; exact IC_1 q12_0 (by omega)
          have q13 : s11 1 1 = s0 1 1 := (show s11 1 1 = s_12 1 1 from by rw [es11, xU_j _ _ (by decide)]).trans q12_1
          have q14 : s11 1 2 = s0 1 2 := (show s11 1 2 = s_12 1 2 from by rw [es11, xU_j _ _ (by decide)]).trans q12_2
          have q15 : s11 1 3 = (x10 + 1) := by rw [es11, xU_s]
          have hF16 := hF_12.put es11 (by omega)
          have O51 : zEX f9 n9 qb 0 K9 b9 B9 Z true (s11 1 3) c2 C2 ((1048576 * zsg (zch f9 n9 (s_12 1 3))) :: st) := hz2.sga ht (by omega) (by omega) rfl
          refine x_aload_n hx hb hl 0 rfl dX5_readSum_54 rfl ?_
          refine x_iload_n hx hb hl 1 rfl dX5_readSum_55 rfl ?_
          refine x_goi (x_runV (As := [.int (xJ q)]) hx hb hml hown hT hE hW hl.1 (Or.inl (by decide)) (so_117 h0 g _) rfl cf_X5_readTerm wq656 wq17 wq654 (c_X5_readTermK2 l D g T h0 s11 hW.2.1 q rq f9 n9 qb K9 b9 B9 Z c2 C2 ((1048576 * zsg (zch f9 n9 (s_12 1 3))) :: st) s9 a9 O9 V9 (by omega) (by first | exact hf | exact ⟨(hF16 2 (by omega)).trans hf.1, by omega⟩) (O51) (hr2.u es11 (by decide)) (by rw [zop_z (by omega)]; omega) (by show (1048576 * zsg (zch f9 n9 (s_12 1 3)) : Int) < 4194304 ∨ (7340032 : Int) ≤ 1048576 * zsg (zch f9 n9 (s_12 1 3)); omega) q12) ⟨rfl, rfl, ⟨by decide, by decide⟩, ⟨by decide, by decide⟩⟩ rfl rfl (Nat.le_of_ble_eq_true rfl) dX5_readSum_56) hW (fun x17 s18 H locs rx17 hp19 hW => ?_)
          obtain ⟨fs18, hp19⟩ := hp19
          have hF20 := hF16.call fs18 (fun k h => by omega)
          have ghp19 := hp19.2
          have H56 := ghp19
          refine x_if_ne (tgt := 64) hx hb rx17 dX5_readSum_59 (by decide) (fun c21 => ?_) (fun c21 => ?_)
          · skip
            refine x_aload_n hx hb hl 0 rfl dX5_readSum_64 rfl ?_
            refine x_get (j := 1) (v := .ref (h0 + 118)) hx hb hown hT hE hW cls_X5 (Or.inl (by decide)) (so_117 h0 g _) (by decide) rfl wq294 dX5_readSum_65 ?_
            obtain ⟨c3, C3, hz3, hr3⟩ := (H56.resolve_right (fun q => by omega)).2.2.2
            have w3 := hz3.b
            have z3 := zsg_cs (zch f9 n9 (s18 1 3))
            refine x_iload_n hx hb hl 3 rfl dX5_readSum_68 rfl ?_
            refine x_iconst hx hb dX5_readSum_69 ?_
            refine x_goi (x_runVN (As := [.int (xJ x7), .int (xJ 0)]) hx hb hml hown hT hE hW hl.1 (Or.inl (by decide)) (so_118 h0 g _) rfl cf_X4_put wq672 wq21 wn670 (c_X4_putK l D g T h0 s18 hW.2.1 x7 rx7 0 (by decide) hp19.1.1) ⟨rfl, rfl, ⟨by decide, by decide⟩, ⟨by decide, by decide⟩⟩ rfl rfl (Nat.le_of_ble_eq_true rfl) dX5_readSum_70) hW (fun x22 s23 H locs rx22 hp24 hW => ?_)
            obtain ⟨fs23, hp24⟩ := hp24
            have hF25 := hF20.call fs23 (fun k h => by omega)
            have q26 : s23 1 1 = s0 1 1 := (congrFun (fs23 _ (by omega)) _).trans (hp19.1.2.1.trans q13)
            have q27 : s23 1 2 = s0 1 2 := (congrFun (fs23 _ (by omega)) _).trans (hp19.1.2.2.1.trans q14)
            have ghp24 := hp24.2
            have H70 := ghp24 (by have y := hr3.b; omega)
            have M70 := zom_sg (x := zch f9 n9 (s_12 1 3)) rfl (by omega)
            have P70 : s23 1 3 = s18 1 3 := congrFun (fs23 1 (by omega)) 3
            have X70 : ∃ c2 C2, zEX f9 n9 qb 0 K9 b9 B9 Z false (s23 1 3) c2 C2 st ∧ zRD s23 s9 a9 c2 C2 O9 V9 := ⟨c3 + 1, xud C3 c3 (1048576 * zsg (zch f9 n9 (s_12 1 3))), by rw [P70]; exact hz3.add (by omega) (by omega) rfl rfl, hr3.put H70.2.1 H70.2.2.1 H70.2.2.2 (C23.trans M70.1) (M70.2 _) rfl rfl⟩
            refine lv_pop hx hb dX5_readSum_73 rfl ?_
            refine x_iinc (lv' := [(2, .int (xJ (i2_12 + 1))), (0, .ref (h0 + 117)), (1, .int (xJ q)), (3, .int (xJ x7))]) hx hb hl 2 rfl dX5_readSum_74 (by decide) rfl (fun ls hl => ?_)
            refine lv_goto (tgt := 12) hx hb dX5_readSum_77 (by decide) ?_
            exact ih12 (i2_12 + 1) s23 H locs ls (by omega) hF25 hp24.1.1 q26 q27 (by omega) (X70) (by rw [P70]; exact (H56.resolve_right (fun q => by omega)).2.2.1) (by omega) hW (lv_sub hl [1, 2, 0] rfl)
          refine x_iconst hx hb dX5_readSum_62 ?_
          rw [eQ]
          exact x_zret hx hb hr hlk hW (by omega) ⟨hF20, ⟨hp19.1.1, (hp19.1.2.1.trans q13), (hp19.1.2.2.1.trans q14), trivial⟩, H56.elim (fun q => absurd q.1 (by omega)) (fun q => Or.inr ⟨by omega, q.2⟩)⟩ dX5_readSum_63
        refine x_icmp_eq (tgt := 41) hx hb rx7 (by decide) dX5_readSum_30 (by decide) (fun c28 => ?_) (fun c28 => ?_)
        · skip
          exact J41 ls (by omega)  (lv_sub hl [1, 2, 3, 0] rfl)
        refine x_iload_n hx hb hl 0 rfl dX5_readSum_33 rfl ?_
        refine x_bipush hx hb dX5_readSum_34 (by decide) ?_
        refine x_icmp_eq (tgt := 41) hx hb rx7 (by decide) dX5_readSum_36 (by decide) (fun c29 => ?_) (fun c29 => ?_)
        · skip
          exact J41 ls (by omega)  (lv_sub hl [1, 2, 3, 0] rfl)
        refine x_iconst hx hb dX5_readSum_39 ?_
        rw [eQ]
        exact x_zret hx hb hr hlk hW (by omega) ⟨hF_12, ⟨q12_0, q12_1, q12_2, trivial⟩, Or.inl ⟨by omega, by omega, by omega, c2, C2, hz2, hr2⟩⟩ dX5_readSum_40
    exact L12 ((300 - 0 : Int).toNat + 1) 0 s2 H locs ls (by decide) hF4 hp3.1.1 (hp3.1.2.1.trans k1_1) (hp3.1.2.2.1.trans k1_2) (by omega) ((H2.resolve_right (fun q => by omega)).2.2.2) ((H2.resolve_right (fun q => by omega)).2.2.1) (Nat.lt_succ_self _) hW (lv_sub hl [1, 2, 0] rfl)
  refine x_iconst hx hb dX5_readSum_8 ?_
  rw [eQ]
  exact x_zret hx hb hr hlk hW (by omega) ⟨hF4, ⟨hp3.1.1, (hp3.1.2.1.trans k1_1), (hp3.1.2.2.1.trans k1_2), trivial⟩, H2.elim (fun q => absurd q.1 (by omega)) (fun q => Or.inr ⟨by omega, q.2⟩)⟩ dX5_readSum_9
set_option maxHeartbeats 4000000 in
set_option maxRecDepth 100000 in
theorem c_X5_readFactorK1 (l : Launch) (D : va_G) (g : xG) (T : Nat × Nat × Nat) (h0 : Nat) (s0 : xS) (hσ : xRR s0) (q : Int) (rq : xR q) (f9 : Int → Int) (n9 : Int) (qb : Int) (K9 : Int) (b9 : Int) (B9 : Int → Int) (Z : Int × Int × Int × (Int → Int)) (c9 : Int) (C9 : Int → Int) (st : List Int) (s9 : Int) (a9 : Int) (O9 : Int → Int) (V9 : Int → Int) (hq : q = 1) (hf : s0 2 = f9 ∧ s0 1 2 = n9) (hz : zEX f9 n9 qb 0 K9 b9 B9 Z true (s0 1 3) c9 C9 st) (hrd : zRD s0 s9 a9 c9 C9 O9 V9) (hst : qb + zop st = 1) (p0 : IC s0) : Met l yX5_readFactor (xws yX5_readFactor cX5_readFactor 4 (some .boolean)) { frames := 18, cells := 0, slots := 0, locals := 407 } (xP [.ref (h0 + 117), .int (xJ q)] D g T h0 s0) (xQi D g h0 (fun r τ => xFr (fun k => k = 1 ∨ k = 118 ∨ k = 119 ∨ k = 120) s0 τ ∧ (((IC τ) ∧ (τ 1 1 = s0 1 1) ∧ (τ 1 2 = s0 1 2) ∧ True) ∧ ((r = 1 ∧ s0 1 3 + 1 ≤ τ 1 3 ∧ ∃ c2 C2, zEX f9 n9 qb 0 K9 b9 B9 Z false (τ 1 3) c2 C2 st ∧ zRD τ s9 a9 c2 C2 O9 V9) ∨ (r = 0 ∧ Z.1 ≠ 0 ∧ τ 1 4 = Z.1))))) 0 0 (xA h0) := by
  refine x_met hσ (by decide) (Nat.le_of_ble_eq_true rfl) ?_
  intro p e s m args below meth c hx hb hr hml hown hT hlk hnm hE hW ls hl
  have hl : lv_has ls 4 [(0, .ref (h0 + 117)), (1, .int (xJ q))] := hl
  obtain ⟨Q, eQ⟩ : ∃ Q, Q = MQ below (xQi D g h0 (fun r τ => xFr (fun k => k = 1 ∨ k = 118 ∨ k = 119 ∨ k = 120) s0 τ ∧ (((IC τ) ∧ (τ 1 1 = s0 1 1) ∧ (τ 1 2 = s0 1 2) ∧ True) ∧ ((r = 1 ∧ s0 1 3 + 1 ≤ τ 1 3 ∧ ∃ c2 C2, zEX f9 n9 qb 0 K9 b9 B9 Z false (τ 1 3) c2 C2 st ∧ zRD τ s9 a9 c2 C2 O9 V9) ∨ (r = 0 ∧ Z.1 ≠ 0 ∧ τ 1 4 = Z.1))))) args s 0 0 (xA h0) := ⟨_, rfl⟩
  rw [← eQ]
  generalize hHe : ([] : List Loc) = locs at hW ⊢
  obtain ⟨H, eH⟩ : ∃ H, H = s.heap := ⟨_, rfl⟩
  rw [← eH] at hW ⊢
  have hF : xFr (fun k => k = 1 ∨ k = 118 ∨ k = 119 ∨ k = 120) s0 s0 := xFr.rf
  have k1_1 : s0 1 1 = s0 1 1 := rfl
  have k1_2 : s0 1 2 = s0 1 2 := rfl
  have k1_3 : s0 1 3 = s0 1 3 := rfl
  have hb9 := hz.b
  have hrb := hrd.b
  have hsh := hz.sh
  have hf2 := hf.2
  refine x_aload_n hx hb hl 0 rfl dX5_readFactor_0 rfl ?_
  refine x_get (j := 0) (v := .ref (h0 + 1)) hx hb hown hT hE hW cls_X5 (Or.inl (by decide)) (so_117 h0 g _) (by decide) rfl wq293 dX5_readFactor_1 ?_
  refine x_goi (x_runVN (As := []) hx hb hml hown hT hE hW hl.1 (Or.inl (by decide)) (so_1 h0 g _) rfl cf_X8_isDigit wq664 wq19 wn662 (c_X8_isDigitK l D g T h0 s0 hW.2.1 f9 n9 (by first | exact hf | exact ⟨(hF 2 (by omega)).trans hf.1, by omega⟩) (by omega) p0) ⟨rfl, rfl, ⟨by decide, by decide⟩, ⟨by decide, by decide⟩⟩ rfl rfl (Nat.le_of_ble_eq_true rfl) dX5_readFactor_4) hW (fun x1 s2 H locs rx1 hp3 hW => ?_)
  obtain ⟨es2, hp3⟩ := hp3
  subst es2
  have ghp3 := hp3
  have H4 := ghp3
  refine x_if_eq (tgt := 15) hx hb rx1 dX5_readFactor_7 (by decide) (fun c4 => ?_) (fun c4 => ?_)
  · skip
    refine x_aload_n hx hb hl 0 rfl dX5_readFactor_15 rfl ?_
    refine x_get (j := 0) (v := .ref (h0 + 1)) hx hb hown hT hE hW cls_X5 (Or.inl (by decide)) (so_117 h0 g _) (by decide) rfl wq293 dX5_readFactor_16 ?_
    refine x_goi (x_runVN (As := []) hx hb hml hown hT hE hW hl.1 (Or.inl (by decide)) (so_1 h0 g _) rfl cf_X8_sign wq581 wq4 wn641 (c_X8_sign l D g T h0 s0 hW.2.1 p0) ⟨rfl, rfl, ⟨by decide, by decide⟩, ⟨by decide, by decide⟩⟩ rfl rfl (Nat.le_of_ble_eq_true rfl) dX5_readFactor_19) hW (fun x5 s6 H locs rx5 hp7 hW => ?_)
    obtain ⟨es6, hp7⟩ := hp7
    subst es6
    have ghp7 := hp7
    have C19 : x5 = zch f9 n9 (s0 1 3) := zch_i (by have q8 := congrFun (show s0 2 = f9 from hf.1) (s0 1 3); have q9 := hf.2; omega)
    have D19 := (H4.resolve_left (fun q => by omega)).2
    refine lv_istore_n (lv' := [(2, .int (xJ x5)), (0, .ref (h0 + 117)), (1, .int (xJ q))]) hx hb dX5_readFactor_22 rfl hl (by decide) rfl (fun ls hl => ?_)
    refine x_iload_n hx hb hl 0 rfl dX5_readFactor_23 rfl ?_
    refine x_bipush hx hb dX5_readFactor_24 (by decide) ?_
    refine x_icmp_ne (tgt := 92) hx hb rx5 (by decide) dX5_readFactor_26 (by decide) (fun c8 => ?_) (fun c8 => ?_)
    · skip
      refine x_iload_n hx hb hl 0 rfl dX5_readFactor_92 rfl ?_
      refine x_goi (x_runSN (As := [.int (xJ x5)]) hx hb hml hown hT hE hW hl.1 cf_X4_placeOfLetter wq676 wn675 (c_X4_placeOfLetterK l D g T h0 s0 hW.2.1 x5 rx5) ⟨rfl, rfl, ⟨by decide, by decide⟩, ⟨by decide, by decide⟩⟩ rfl rfl (Nat.le_of_ble_eq_true rfl) dX5_readFactor_93) hW (fun x9 s10 H locs rx9 hp11 hW => ?_)
      obtain ⟨es10, hp11⟩ := hp11
      subst es10
      have ghp11 := hp11
      have H93 : x9 = zlt (zch f9 n9 (s0 1 3)) := by have z := zlt_cs (zch f9 n9 (s0 1 3)); omega
      have Z93 := zlt_cs (zch f9 n9 (s0 1 3))
      refine lv_istore_n (lv' := [(3, .int (xJ x9)), (2, .int (xJ x5)), (0, .ref (h0 + 117)), (1, .int (xJ q))]) hx hb dX5_readFactor_96 rfl hl (by decide) rfl (fun ls hl => ?_)
      refine x_iload_n hx hb hl 0 rfl dX5_readFactor_97 rfl ?_
      refine x_iconst hx hb dX5_readFactor_98 ?_
      refine x_icmp_ne (tgt := 118) hx hb rx9 (by decide) dX5_readFactor_99 (by decide) (fun c12 => ?_) (fun c12 => ?_)
      · skip
        refine x_aload_n hx hb hl 2 rfl dX5_readFactor_118 rfl ?_
        refine x_get (j := 0) (v := .ref (h0 + 1)) hx hb hown hT hE hW cls_X5 (Or.inl (by decide)) (so_117 h0 g _) (by decide) rfl wq293 dX5_readFactor_119 ?_
        refine lv_dup hx hb dX5_readFactor_122 rfl ?_
        refine x_getN (j := 3) (v := .int (xJ (s0 1 3))) hx hb hown hT hE hW cls_X8 (Or.inl (by decide)) (so_1 h0 g _) (by decide) rfl wn201 dX5_readFactor_123 ?_
        refine x_rd hW (fun x13 ex13 rx13 => ?_)
        have fx13 : x13 = s0 1 3 := ex13.trans k1_3
        refine x_iconst hx hb dX5_readFactor_126 ?_
        refine x_iadd hx hb dX5_readFactor_127 ?_
        refine x_putN (j := 3) hx hb hown hT hE hW cls_X8 (by decide) (fun σ => so_1 h0 g σ) (by decide) (st_X8_3 h0 s0 1 (x13 + 1)) (ln_X8_3 h0 _ _) wn201 rfl rfl rfl (by omega) dX5_readFactor_128 (fun H locs s14 es14 hW => ?_)
        have q15 : IC s14 := by rw [es14]; exact IC_1 p0 (by omega)
        have q16 : s14 1 1 = s0 1 1 := (show s14 1 1 = s0 1 1 from by rw [es14, xU_j _ _ (by decide)]).trans k1_1
        have q17 : s14 1 2 = s0 1 2 := (show s14 1 2 = s0 1 2 from by rw [es14, xU_j _ _ (by decide)]).trans k1_2
        have q18 : s14 1 3 = (x13 + 1) := by rw [es14, xU_s]
        have hF19 := hF.put es14 (by omega)
        have R128 := hrd.u es14 (by decide)
        refine x_aload_n hx hb hl 2 rfl dX5_readFactor_131 rfl ?_
        refine x_get (j := 1) (v := .ref (h0 + 118)) hx hb hown hT hE hW cls_X5 (Or.inl (by decide)) (so_117 h0 g _) (by decide) rfl wq294 dX5_readFactor_132 ?_
        refine x_iconst hx hb dX5_readFactor_135 ?_
        refine x_iload_n hx hb hl 0 rfl dX5_readFactor_136 rfl ?_
        refine x_goi (x_runVN (As := [.int (xJ 2), .int (xJ x9)]) hx hb hml hown hT hE hW hl.1 (Or.inl (by decide)) (so_118 h0 g _) rfl cf_X4_put wq672 wq21 wn670 (c_X4_putK l D g T h0 s14 hW.2.1 2 (by decide) x9 rx9 q15) ⟨rfl, rfl, ⟨by decide, by decide⟩, ⟨by decide, by decide⟩⟩ rfl rfl (Nat.le_of_ble_eq_true rfl) dX5_readFactor_137) hW (fun x20 s21 H locs rx20 hp22 hW => ?_)
        obtain ⟨fs21, hp22⟩ := hp22
        have hF23 := hF19.call fs21 (fun k h => by omega)
        have q24 : s21 1 1 = s0 1 1 := (congrFun (fs21 _ (by omega)) _).trans q16
        have q25 : s21 1 2 = s0 1 2 := (congrFun (fs21 _ (by omega)) _).trans q17
        have q26 : s21 1 3 = (x13 + 1) := (congrFun (fs21 _ (by omega)) _).trans q18
        have ghp22 := hp22.2
        have H137 := ghp22 (by have y := R128.b; omega)
        refine lv_pop hx hb dX5_readFactor_140 rfl ?_
        refine x_iconst hx hb dX5_readFactor_141 ?_
        rw [eQ]
        exact x_zret hx hb hr hlk hW (by omega) ⟨hF23, ⟨hp22.1.1, q24, q25, trivial⟩, Or.inl ⟨by omega, by omega, c9 + 1, xud C9 c9 (1048576 + zlt (zch f9 n9 (s0 1 3))), hz.let_ (by omega) (by omega) rfl rfl, R128.put H137.2.1 H137.2.2.1 H137.2.2.2 (zom_l rfl (by omega)).1 (by rw [H93]; exact (zom_l rfl (by omega)).2 _) rfl rfl⟩⟩ dX5_readFactor_142
      refine x_aload_n hx hb hl 2 rfl dX5_readFactor_102 rfl ?_
      refine x_get (j := 0) (v := .ref (h0 + 1)) hx hb hown hT hE hW cls_X5 (Or.inl (by decide)) (so_117 h0 g _) (by decide) rfl wq293 dX5_readFactor_103 ?_
      refine x_iconst hx hb dX5_readFactor_106 ?_
      refine x_aload_n hx hb hl 2 rfl dX5_readFactor_107 rfl ?_
      refine x_get (j := 0) (v := .ref (h0 + 1)) hx hb hown hT hE hW cls_X5 (Or.inl (by decide)) (so_117 h0 g _) (by decide) rfl wq293 dX5_readFactor_108 ?_
      refine x_getN (j := 3) (v := .int (xJ (s0 1 3))) hx hb hown hT hE hW cls_X8 (Or.inl (by decide)) (so_1 h0 g _) (by decide) rfl wn201 dX5_readFactor_111 ?_
      refine x_rd hW (fun x27 ex27 rx27 => ?_)
      have fx27 : x27 = s0 1 3 := ex27.trans k1_3
      refine x_goi (x_runVN (As := [.int (xJ 1), .int (xJ x27)]) hx hb hml hown hT hE hW hl.1 (Or.inl (by decide)) (so_1 h0 g _) rfl cf_X8_fails wq588 wq5 wn645 (c_X8_failsM l D g T h0 s0 hW.2.1 1 (by decide) x27 rx27 (by omega) p0) ⟨rfl, rfl, ⟨by decide, by decide⟩, ⟨by decide, by decide⟩⟩ rfl rfl (Nat.le_of_ble_eq_true rfl) dX5_readFactor_114) hW (fun x28 s29 H locs rx28 hp30 hW => ?_)
      obtain ⟨fs29, hp30⟩ := hp30
      have hF31 := hF.call fs29 (fun k h => by omega)
      have ghp30 := hp30.2
      rw [eQ]
      exact x_zret hx hb hr hlk hW (by omega) ⟨hF31, ⟨hp30.1.1, (hp30.1.2.1.trans k1_1), (hp30.1.2.2.1.trans k1_2), trivial⟩, by
    have z := hz.one (by omega) D19 (by omega)
    rw [z]
    exact Or.inr ⟨by omega, (by show (-1000 - _ : Int) ≠ 0; omega), (by show _ = (-1000 - _ : Int); omega)⟩⟩ dX5_readFactor_117
    refine x_iload_n hx hb hl 2 rfl dX5_readFactor_29 rfl ?_
    refine x_bipush hx hb dX5_readFactor_30 (by decide) ?_
    refine x_icmp_lt (tgt := 51) hx hb rq (by decide) dX5_readFactor_32 (by decide) (fun c32 => ?_) (fun c32 => False.elim (by omega))
    refine x_aload_n hx hb hl 1 rfl dX5_readFactor_51 rfl ?_
    refine x_get (j := 0) (v := .ref (h0 + 1)) hx hb hown hT hE hW cls_X5 (Or.inl (by decide)) (so_117 h0 g _) (by decide) rfl wq293 dX5_readFactor_52 ?_
    refine lv_dup hx hb dX5_readFactor_55 rfl ?_
    refine x_getN (j := 3) (v := .int (xJ (s0 1 3))) hx hb hown hT hE hW cls_X8 (Or.inl (by decide)) (so_1 h0 g _) (by decide) rfl wn201 dX5_readFactor_56 ?_
    refine x_rd hW (fun x33 ex33 rx33 => ?_)
    have fx33 : x33 = s0 1 3 := ex33.trans k1_3
    refine x_iconst hx hb dX5_readFactor_59 ?_
    refine x_iadd hx hb dX5_readFactor_60 ?_
    refine x_putN (j := 3) hx hb hown hT hE hW cls_X8 (by decide) (fun σ => so_1 h0 g σ) (by decide) (st_X8_3 h0 s0 1 (x33 + 1)) (ln_X8_3 h0 _ _) wn201 rfl rfl rfl (by omega) dX5_readFactor_61 (fun H locs s34 es34 hW => ?_)
    have q35 : IC s34 := by rw [es34]; exact IC_1 p0 (by omega)
    have q36 : s34 1 1 = s0 1 1 := (show s34 1 1 = s0 1 1 from by rw [es34, xU_j _ _ (by decide)]).trans k1_1
    have q37 : s34 1 2 = s0 1 2 := (show s34 1 2 = s0 1 2 from by rw [es34, xU_j _ _ (by decide)]).trans k1_2
    have q38 : s34 1 3 = (x33 + 1) := by rw [es34, xU_s]
    have hF39 := hF.put es34 (by omega)
    have O61 : zEX f9 n9 qb 0 K9 b9 B9 Z true (s34 1 3) c9 C9 (14680064 :: st) := hz.open_ (by omega) (by omega) (by omega) rfl
    refine x_aload_n hx hb hl 1 rfl dX5_readFactor_64 rfl ?_
    refine x_iload_n hx hb hl 2 rfl dX5_readFactor_65 rfl ?_
    refine x_iconst hx hb dX5_readFactor_66 ?_
    refine x_iadd hx hb dX5_readFactor_67 ?_
    refine x_goi (x_runV (As := [.int (xJ (q + 1))]) hx hb hml hown hT hE hW hl.1 (Or.inl (by decide)) (so_117 h0 g _) rfl cf_X5_readSum wq652 wq16 wq650 (c_X5_readSumK2 l D g T h0 s34 hW.2.1 (q + 1) (by omega) f9 n9 qb K9 b9 B9 Z c9 C9 (14680064 :: st) s9 a9 O9 V9 (by omega) (by first | exact hf | exact ⟨(hF39 2 (by omega)).trans hf.1, by omega⟩) (O61) (hrd.u es34 (by decide)) (by rw [zop_y (by decide)]; omega) (Or.inr (by show (7340032 : Int) ≤ 14680064; decide)) q35) ⟨rfl, rfl, ⟨by decide, by decide⟩, ⟨by decide, by decide⟩⟩ rfl rfl (Nat.le_of_ble_eq_true rfl) dX5_readFactor_68) hW (fun x40 s41 H locs rx40 hp42 hW => ?_)
    obtain ⟨fs41, hp42⟩ := hp42
    have hF43 := hF39.call fs41 (fun k h => by omega)
    have ghp42 := hp42.2
    have H68 := ghp42
    have G68 : s41 2 = f9 ∧ s41 1 2 = n9 := ⟨(hF43 2 (by omega)).trans hf.1, by omega⟩
    refine x_if_eq (tgt := 90) hx hb rx40 dX5_readFactor_71 (by decide) (fun c44 => ?_) (fun c44 => ?_)
    · skip
      refine x_iconst hx hb dX5_readFactor_90 ?_
      rw [eQ]
      exact x_zret hx hb hr hlk hW (by omega) ⟨hF43, ⟨hp42.1.1, (hp42.1.2.1.trans q36), (hp42.1.2.2.1.trans q37), trivial⟩, by first | exact H68.elim (fun q => absurd q.1 (by omega)) (fun q => Or.inr ⟨by omega, q.2⟩) | exact Or.inl ⟨by omega, by omega, c2, C2, hz2.shut (by show (7340032 : Int) ≤ 14680064; decide) (by omega) (by omega), hr2.f (congrFun (fs41 118 (by omega)) 2) (fs41 119 (by omega)) (fs41 120 (by omega))⟩ | (have z := zEX.bad _ _ _ hz2 (by rw [zop_y (by decide)]; have := zop_n st; omega) (by omega) (by omega); exact Or.inr ⟨by omega, by omega, by omega⟩)⟩ dX5_readFactor_91
    refine x_aload_n hx hb hl 1 rfl dX5_readFactor_74 rfl ?_
    obtain ⟨c2, C2, hz2, hr2⟩ := (H68.resolve_right (fun q => by omega)).2.2.2
    have w68 := hz2.b
    refine x_get (j := 0) (v := .ref (h0 + 1)) hx hb hown hT hE hW cls_X5 (Or.inl (by decide)) (so_117 h0 g _) (by decide) rfl wq293 dX5_readFactor_75 ?_
    refine x_bipush hx hb dX5_readFactor_78 (by decide) ?_
    refine x_goi (x_runVN (As := [.int (xJ 93)]) hx hb hml hown hT hE hW hl.1 (Or.inl (by decide)) (so_1 h0 g _) rfl cf_X8_passes wq598 wq6 wn674 (c_X8_passesM l D g T h0 s41 hW.2.1 93 (by decide) (by omega) (by omega) hp42.1.1) ⟨rfl, rfl, ⟨by decide, by decide⟩, ⟨by decide, by decide⟩⟩ rfl rfl (Nat.le_of_ble_eq_true rfl) dX5_readFactor_80) hW (fun x45 s46 H locs rx45 hp47 hW => ?_)
    obtain ⟨fs46, hp47⟩ := hp47
    have hF48 := hF43.call fs46 (fun k h => by omega)
    have ghp47 := hp47.2
    have H80 := ghp47
    rw [G68.1, G68.2] at H80
    refine x_if_eq (tgt := 90) hx hb rx45 dX5_readFactor_83 (by decide) (fun c49 => ?_) (fun c49 => ?_)
    · skip
      refine x_iconst hx hb dX5_readFactor_90 ?_
      rw [eQ]
      exact x_zret hx hb hr hlk hW (by omega) ⟨hF48, ⟨hp47.1.1, (hp47.1.2.1.trans (hp42.1.2.1.trans q36)), (hp47.1.2.2.1.trans (hp42.1.2.2.1.trans q37)), trivial⟩, by first | exact H68.elim (fun q => absurd q.1 (by omega)) (fun q => Or.inr ⟨by omega, q.2⟩) | exact Or.inl ⟨by omega, by omega, c2, C2, hz2.shut (by show (7340032 : Int) ≤ 14680064; decide) (by omega) (by omega), hr2.f (congrFun (fs46 118 (by omega)) 2) (fs46 119 (by omega)) (fs46 120 (by omega))⟩ | (have z := zEX.bad _ _ _ hz2 (by rw [zop_y (by decide)]; have := zop_n st; omega) (by omega) (by omega); exact Or.inr ⟨by omega, by omega, by omega⟩)⟩ dX5_readFactor_91
    refine x_iconst hx hb dX5_readFactor_86 ?_
    refine lv_goto (tgt := 91) hx hb dX5_readFactor_87 (by decide) ?_
    rw [eQ]
    exact x_zret hx hb hr hlk hW (by omega) ⟨hF48, ⟨hp47.1.1, (hp47.1.2.1.trans (hp42.1.2.1.trans q36)), (hp47.1.2.2.1.trans (hp42.1.2.2.1.trans q37)), trivial⟩, by first | exact H68.elim (fun q => absurd q.1 (by omega)) (fun q => Or.inr ⟨by omega, q.2⟩) | exact Or.inl ⟨by omega, by omega, c2, C2, hz2.shut (by show (7340032 : Int) ≤ 14680064; decide) (by omega) (by omega), hr2.f (congrFun (fs46 118 (by omega)) 2) (fs46 119 (by omega)) (fs46 120 (by omega))⟩ | (have z := zEX.bad _ _ _ hz2 (by rw [zop_y (by decide)]; have := zop_n st; omega) (by omega) (by omega); exact Or.inr ⟨by omega, by omega, by omega⟩)⟩ dX5_readFactor_91
  refine x_aload_n hx hb hl 0 rfl dX5_readFactor_10 rfl ?_
  refine x_goi (x_runV (As := []) hx hb hml hown hT hE hW hl.1 (Or.inl (by decide)) (so_117 h0 g _) rfl cf_X5_readNumber wq668 wq20 wq666 (c_X5_readNumberK l D g T h0 s0 hW.2.1 f9 n9 qb K9 b9 B9 Z c9 C9 st s9 a9 O9 V9 (by first | exact hf | exact ⟨(hF 2 (by omega)).trans hf.1, by omega⟩) (hz) (hrd) ((H4.resolve_right (fun q => by omega)).2) p0) ⟨rfl, rfl, ⟨by decide, by decide⟩, ⟨by decide, by decide⟩⟩ rfl rfl (Nat.le_of_ble_eq_true rfl) dX5_readFactor_11) hW (fun x50 s51 H locs rx50 hp52 hW => ?_)
  obtain ⟨fs51, hp52⟩ := hp52
  have hF53 := hF.call fs51 (fun k h => by omega)
  have ghp52 := hp52.2
  have H11 := ghp52
  rw [eQ]
  exact x_zret hx hb hr hlk hW (by omega) ⟨hF53, ⟨hp52.1.1, (hp52.1.2.1.trans k1_1), (hp52.1.2.2.1.trans k1_2), trivial⟩, by first | exact H11 | exact H11.elim (fun q => Or.inl q) Or.inr⟩ dX5_readFactor_14
set_option maxHeartbeats 4000000 in
set_option maxRecDepth 100000 in
theorem c_X5_readTermK1 (l : Launch) (D : va_G) (g : xG) (T : Nat × Nat × Nat) (h0 : Nat) (s0 : xS) (hσ : xRR s0) (q : Int) (rq : xR q) (f9 : Int → Int) (n9 : Int) (qb : Int) (K9 : Int) (b9 : Int) (B9 : Int → Int) (Z : Int × Int × Int × (Int → Int)) (c9 : Int) (C9 : Int → Int) (st : List Int) (s9 : Int) (a9 : Int) (O9 : Int → Int) (V9 : Int → Int) (hq : q = 1) (hf : s0 2 = f9 ∧ s0 1 2 = n9) (hz : zEX f9 n9 qb 0 K9 b9 B9 Z true (s0 1 3) c9 C9 st) (hrd : zRD s0 s9 a9 c9 C9 O9 V9) (hst : qb + zop st = 1) (ht : ztp st < 4194304 ∨ 7340032 ≤ ztp st) (p0 : IC s0) : Met l yX5_readTerm (xws yX5_readTerm cX5_readTerm 4 (some .boolean)) { frames := 19, cells := 0, slots := 0, locals := 430 } (xP [.ref (h0 + 117), .int (xJ q)] D g T h0 s0) (xQi D g h0 (fun r τ => xFr (fun k => k = 1 ∨ k = 118 ∨ k = 119 ∨ k = 120) s0 τ ∧ (((IC τ) ∧ (τ 1 1 = s0 1 1) ∧ (τ 1 2 = s0 1 2) ∧ True) ∧ ((r = 1 ∧ s0 1 3 + 1 ≤ τ 1 3 ∧ zsg (zch f9 n9 (τ 1 3)) < 4 ∧ ∃ c2 C2, zEX f9 n9 qb 0 K9 b9 B9 Z false (τ 1 3) c2 C2 st ∧ zRD τ s9 a9 c2 C2 O9 V9) ∨ (r = 0 ∧ Z.1 ≠ 0 ∧ τ 1 4 = Z.1))))) 0 0 (xA h0) := by
  refine x_met hσ (by decide) (Nat.le_of_ble_eq_true rfl) ?_
  intro p e s m args below meth c hx hb hr hml hown hT hlk hnm hE hW ls hl
  have hl : lv_has ls 4 [(0, .ref (h0 + 117)), (1, .int (xJ q))] := hl
  obtain ⟨Q, eQ⟩ : ∃ Q, Q = MQ below (xQi D g h0 (fun r τ => xFr (fun k => k = 1 ∨ k = 118 ∨ k = 119 ∨ k = 120) s0 τ ∧ (((IC τ) ∧ (τ 1 1 = s0 1 1) ∧ (τ 1 2 = s0 1 2) ∧ True) ∧ ((r = 1 ∧ s0 1 3 + 1 ≤ τ 1 3 ∧ zsg (zch f9 n9 (τ 1 3)) < 4 ∧ ∃ c2 C2, zEX f9 n9 qb 0 K9 b9 B9 Z false (τ 1 3) c2 C2 st ∧ zRD τ s9 a9 c2 C2 O9 V9) ∨ (r = 0 ∧ Z.1 ≠ 0 ∧ τ 1 4 = Z.1))))) args s 0 0 (xA h0) := ⟨_, rfl⟩
  rw [← eQ]
  generalize hHe : ([] : List Loc) = locs at hW ⊢
  obtain ⟨H, eH⟩ : ∃ H, H = s.heap := ⟨_, rfl⟩
  rw [← eH] at hW ⊢
  have hF : xFr (fun k => k = 1 ∨ k = 118 ∨ k = 119 ∨ k = 120) s0 s0 := xFr.rf
  have k1_1 : s0 1 1 = s0 1 1 := rfl
  have k1_2 : s0 1 2 = s0 1 2 := rfl
  have k1_3 : s0 1 3 = s0 1 3 := rfl
  have hb9 := hz.b
  have hrb := hrd.b
  have hsh := hz.sh
  have hf2 := hf.2
  refine x_aload_n hx hb hl 0 rfl dX5_readTerm_0 rfl ?_
  refine x_iload_n hx hb hl 1 rfl dX5_readTerm_1 rfl ?_
  refine x_goi (x_runV (As := [.int (xJ q)]) hx hb hml hown hT hE hW hl.1 (Or.inl (by decide)) (so_117 h0 g _) rfl cf_X5_readFactor wq660 wq18 wq658 (c_X5_readFactorK1 l D g T h0 s0 hW.2.1 q rq f9 n9 qb K9 b9 B9 Z c9 C9 st s9 a9 O9 V9 (by omega) (by first | exact hf | exact ⟨(hF 2 (by omega)).trans hf.1, by omega⟩) (hz) (hrd) (hst) p0) ⟨rfl, rfl, ⟨by decide, by decide⟩, ⟨by decide, by decide⟩⟩ rfl rfl (Nat.le_of_ble_eq_true rfl) dX5_readTerm_2) hW (fun x1 s2 H locs rx1 hp3 hW => ?_)
  obtain ⟨fs2, hp3⟩ := hp3
  have hF4 := hF.call fs2 (fun k h => by omega)
  have ghp3 := hp3.2
  have H2 := ghp3
  refine x_if_ne (tgt := 10) hx hb rx1 dX5_readTerm_5 (by decide) (fun c5 => ?_) (fun c5 => ?_)
  · skip
    refine x_iconst hx hb dX5_readTerm_10 ?_
    refine lv_istore_n (lv' := [(2, .int (xJ 0)), (0, .ref (h0 + 117)), (1, .int (xJ q))]) hx hb dX5_readTerm_11 rfl hl (by decide) rfl (fun ls hl => ?_)
    have L12 : ∀ (fu : Nat) (i2_12 : Int) (s_12 : xS) (H : Heap) (locs : List Loc) (ls : Array Slot), (xR i2_12) → (xFr (fun k => k = 1 ∨ k = 118 ∨ k = 119 ∨ k = 120) s0 s_12) → (IC s_12) → (s_12 1 1 = s0 1 1) → (s_12 1 2 = s0 1 2) → (0 ≤ i2_12 ∧ i2_12 + s0 1 3 + 1 ≤ s_12 1 3) → (∃ c2 C2, zEX f9 n9 qb 0 K9 b9 B9 Z false (s_12 1 3) c2 C2 st ∧ zRD s_12 s9 a9 c2 C2 O9 V9) → (300 - i2_12).toNat < fu → xW D g h0 s H locs s_12 → lv_has ls 4 [(0, .ref (h0 + 117)), (1, .int (xJ q)), (2, .int (xJ i2_12))] → W p l e { frames := 19, cells := 0, slots := 0, locals := 430 } s m args below meth c H locs 0 0 Q (F0 m 12 ls []) := by
      intro fu
      induction fu with
      | zero => intro i2_12 s_12 H locs ls ri2_12 hF_12 q12_0 q12_1 q12_2 v12_0 v12_1 hm; exact absurd hm (Nat.not_lt_zero _)
      | succ fu ih12 =>
        intro i2_12 s_12 H locs ls ri2_12 hF_12 q12_0 q12_1 q12_2 v12_0 v12_1 hm hW hl
        obtain ⟨c2, C2, hz2, hr2⟩ := v12_1
        have w12 := hz2.b
        refine x_iload_n hx hb hl 2 rfl dX5_readTerm_12 rfl ?_
        refine x_sipush hx hb dX5_readTerm_13 (by decide) ?_
        refine x_icmp_ge (tgt := 86) hx hb ri2_12 (by decide) dX5_readTerm_16 (by decide) (fun c6 => False.elim (by omega)) (fun c6 => ?_)
        refine x_aload_n hx hb hl 0 rfl dX5_readTerm_19 rfl ?_
        refine x_get (j := 0) (v := .ref (h0 + 1)) hx hb hown hT hE hW cls_X5 (Or.inl (by decide)) (so_117 h0 g _) (by decide) rfl wq293 dX5_readTerm_20 ?_
        refine x_goi (x_runVN (As := []) hx hb hml hown hT hE hW hl.1 (Or.inl (by decide)) (so_1 h0 g _) rfl cf_X8_sign wq581 wq4 wn641 (c_X8_sign l D g T h0 s_12 hW.2.1 q12_0) ⟨rfl, rfl, ⟨by decide, by decide⟩, ⟨by decide, by decide⟩⟩ rfl rfl (Nat.le_of_ble_eq_true rfl) dX5_readTerm_23) hW (fun x7 s8 H locs rx7 hp9 hW => ?_)
        obtain ⟨es8, hp9⟩ := hp9
        subst es8
        have ghp9 := hp9
        have C23 : x7 = zch f9 n9 (s_12 1 3) := zch_i (by have q8 := congrFun (show s_12 2 = f9 from (hF_12 2 (by omega)).trans hf.1) (s_12 1 3); have q9 := hf.2; omega)
        have Z12 := zsg_cs (zch f9 n9 (s_12 1 3))
        refine lv_istore_n (lv' := [(3, .int (xJ x7)), (0, .ref (h0 + 117)), (1, .int (xJ q)), (2, .int (xJ i2_12))]) hx hb dX5_readTerm_26 rfl hl (by decide) rfl (fun ls hl => ?_)
        refine x_iload_n hx hb hl 0 rfl dX5_readTerm_27 rfl ?_
        refine x_bipush hx hb dX5_readTerm_28 (by decide) ?_
        have J47 : ∀ (ls : Array Slot), (x7 = 42 ∨ x7 = 47 ∨ x7 = 37) → lv_has ls 4 [(0, .ref (h0 + 117)), (1, .int (xJ q)), (2, .int (xJ i2_12)), (3, .int (xJ x7))] → W p l e { frames := 19, cells := 0, slots := 0, locals := 430 } s m args below meth c H locs 0 0 Q (F0 m 47 ls []) := by
          intro ls v47_0  hl
          refine x_aload_n hx hb hl 0 rfl dX5_readTerm_47 rfl ?_
          refine x_get (j := 0) (v := .ref (h0 + 1)) hx hb hown hT hE hW cls_X5 (Or.inl (by decide)) (so_117 h0 g _) (by decide) rfl wq293 dX5_readTerm_48 ?_
          refine lv_dup hx hb dX5_readTerm_51 rfl ?_
          refine x_getN (j := 3) (v := .int (xJ (s_12 1 3))) hx hb hown hT hE hW cls_X8 (Or.inl (by decide)) (so_1 h0 g _) (by decide) rfl wn201 dX5_readTerm_52 ?_
          refine x_rd hW (fun x10 ex10 rx10 => ?_)
          refine x_iconst hx hb dX5_readTerm_55 ?_
          refine x_iadd hx hb dX5_readTerm_56 ?_
          refine x_putN (j := 3) hx hb hown hT hE hW cls_X8 (by decide) (fun σ => so_1 h0 g σ) (by decide) (st_X8_3 h0 s_12 1 (x10 + 1)) (ln_X8_3 h0 _ _) wn201 rfl rfl rfl (by omega) dX5_readTerm_57 (fun H locs s11 es11 hW => ?_)
          have q12 : IC s11 := by rw [es11]; exact IC_1 q12_0 (by omega)
          have q13 : s11 1 1 = s0 1 1 := (show s11 1 1 = s_12 1 1 from by rw [es11, xU_j _ _ (by decide)]).trans q12_1
          have q14 : s11 1 2 = s0 1 2 := (show s11 1 2 = s_12 1 2 from by rw [es11, xU_j _ _ (by decide)]).trans q12_2
          have q15 : s11 1 3 = (x10 + 1) := by rw [es11, xU_s]
          have hF16 := hF_12.put es11 (by omega)
          have O57 : zEX f9 n9 qb 0 K9 b9 B9 Z true (s11 1 3) c2 C2 ((1048576 * zsg (zch f9 n9 (s_12 1 3))) :: st) := hz2.sgm ht (by omega) (by omega) rfl
          refine x_aload_n hx hb hl 0 rfl dX5_readTerm_60 rfl ?_
          refine x_iload_n hx hb hl 1 rfl dX5_readTerm_61 rfl ?_
          refine x_goi (x_runV (As := [.int (xJ q)]) hx hb hml hown hT hE hW hl.1 (Or.inl (by decide)) (so_117 h0 g _) rfl cf_X5_readFactor wq660 wq18 wq658 (c_X5_readFactorK1 l D g T h0 s11 hW.2.1 q rq f9 n9 qb K9 b9 B9 Z c2 C2 ((1048576 * zsg (zch f9 n9 (s_12 1 3))) :: st) s9 a9 O9 V9 (by omega) (by first | exact hf | exact ⟨(hF16 2 (by omega)).trans hf.1, by omega⟩) (O57) (hr2.u es11 (by decide)) (by rw [zop_z (by omega)]; omega) q12) ⟨rfl, rfl, ⟨by decide, by decide⟩, ⟨by decide, by decide⟩⟩ rfl rfl (Nat.le_of_ble_eq_true rfl) dX5_readTerm_62) hW (fun x17 s18 H locs rx17 hp19 hW => ?_)
          obtain ⟨fs18, hp19⟩ := hp19
          have hF20 := hF16.call fs18 (fun k h => by omega)
          have ghp19 := hp19.2
          have H62 := ghp19
          refine x_if_ne (tgt := 70) hx hb rx17 dX5_readTerm_65 (by decide) (fun c21 => ?_) (fun c21 => ?_)
          · skip
            refine x_aload_n hx hb hl 0 rfl dX5_readTerm_70 rfl ?_
            refine x_get (j := 1) (v := .ref (h0 + 118)) hx hb hown hT hE hW cls_X5 (Or.inl (by decide)) (so_117 h0 g _) (by decide) rfl wq294 dX5_readTerm_71 ?_
            obtain ⟨c3, C3, hz3, hr3⟩ := (H62.resolve_right (fun q => by omega)).2.2
            have w3 := hz3.b
            have z3 := zsg_cs (zch f9 n9 (s18 1 3))
            refine x_iload_n hx hb hl 3 rfl dX5_readTerm_74 rfl ?_
            refine x_iconst hx hb dX5_readTerm_75 ?_
            refine x_goi (x_runVN (As := [.int (xJ x7), .int (xJ 0)]) hx hb hml hown hT hE hW hl.1 (Or.inl (by decide)) (so_118 h0 g _) rfl cf_X4_put wq672 wq21 wn670 (c_X4_putK l D g T h0 s18 hW.2.1 x7 rx7 0 (by decide) hp19.1.1) ⟨rfl, rfl, ⟨by decide, by decide⟩, ⟨by decide, by decide⟩⟩ rfl rfl (Nat.le_of_ble_eq_true rfl) dX5_readTerm_76) hW (fun x22 s23 H locs rx22 hp24 hW => ?_)
            obtain ⟨fs23, hp24⟩ := hp24
            have hF25 := hF20.call fs23 (fun k h => by omega)
            have q26 : s23 1 1 = s0 1 1 := (congrFun (fs23 _ (by omega)) _).trans (hp19.1.2.1.trans q13)
            have q27 : s23 1 2 = s0 1 2 := (congrFun (fs23 _ (by omega)) _).trans (hp19.1.2.2.1.trans q14)
            have ghp24 := hp24.2
            have H76 := ghp24 (by have y := hr3.b; omega)
            have M76 := zom_sg (x := zch f9 n9 (s_12 1 3)) rfl (by omega)
            have P76 : s23 1 3 = s18 1 3 := congrFun (fs23 1 (by omega)) 3
            have X76 : ∃ c2 C2, zEX f9 n9 qb 0 K9 b9 B9 Z false (s23 1 3) c2 C2 st ∧ zRD s23 s9 a9 c2 C2 O9 V9 := ⟨c3 + 1, xud C3 c3 (1048576 * zsg (zch f9 n9 (s_12 1 3))), by rw [P76]; exact hz3.mul (by omega) rfl rfl, hr3.put H76.2.1 H76.2.2.1 H76.2.2.2 (C23.trans M76.1) (M76.2 _) rfl rfl⟩
            refine lv_pop hx hb dX5_readTerm_79 rfl ?_
            refine x_iinc (lv' := [(2, .int (xJ (i2_12 + 1))), (0, .ref (h0 + 117)), (1, .int (xJ q)), (3, .int (xJ x7))]) hx hb hl 2 rfl dX5_readTerm_80 (by decide) rfl (fun ls hl => ?_)
            refine lv_goto (tgt := 12) hx hb dX5_readTerm_83 (by decide) ?_
            exact ih12 (i2_12 + 1) s23 H locs ls (by omega) hF25 hp24.1.1 q26 q27 (by omega) (X76) (by omega) hW (lv_sub hl [1, 2, 0] rfl)
          refine x_iconst hx hb dX5_readTerm_68 ?_
          rw [eQ]
          exact x_zret hx hb hr hlk hW (by omega) ⟨hF20, ⟨hp19.1.1, (hp19.1.2.1.trans q13), (hp19.1.2.2.1.trans q14), trivial⟩, H62.elim (fun q => absurd q.1 (by omega)) (fun q => Or.inr ⟨by omega, q.2⟩)⟩ dX5_readTerm_69
        refine x_icmp_eq (tgt := 47) hx hb rx7 (by decide) dX5_readTerm_30 (by decide) (fun c28 => ?_) (fun c28 => ?_)
        · skip
          exact J47 ls (by omega)  (lv_sub hl [1, 2, 3, 0] rfl)
        refine x_iload_n hx hb hl 0 rfl dX5_readTerm_33 rfl ?_
        refine x_bipush hx hb dX5_readTerm_34 (by decide) ?_
        refine x_icmp_eq (tgt := 47) hx hb rx7 (by decide) dX5_readTerm_36 (by decide) (fun c29 => ?_) (fun c29 => ?_)
        · skip
          exact J47 ls (by omega)  (lv_sub hl [1, 2, 3, 0] rfl)
        refine x_iload_n hx hb hl 0 rfl dX5_readTerm_39 rfl ?_
        refine x_bipush hx hb dX5_readTerm_40 (by decide) ?_
        refine x_icmp_eq (tgt := 47) hx hb rx7 (by decide) dX5_readTerm_42 (by decide) (fun c30 => ?_) (fun c30 => ?_)
        · skip
          exact J47 ls (by omega)  (lv_sub hl [1, 2, 3, 0] rfl)
        refine x_iconst hx hb dX5_readTerm_45 ?_
        rw [eQ]
        exact x_zret hx hb hr hlk hW (by omega) ⟨hF_12, ⟨q12_0, q12_1, q12_2, trivial⟩, Or.inl ⟨by omega, by omega, by omega, c2, C2, hz2, hr2⟩⟩ dX5_readTerm_46
    exact L12 ((300 - 0 : Int).toNat + 1) 0 s2 H locs ls (by decide) hF4 hp3.1.1 (hp3.1.2.1.trans k1_1) (hp3.1.2.2.1.trans k1_2) (by omega) ((H2.resolve_right (fun q => by omega)).2.2) (Nat.lt_succ_self _) hW (lv_sub hl [1, 2, 0] rfl)
  refine x_iconst hx hb dX5_readTerm_8 ?_
  rw [eQ]
  exact x_zret hx hb hr hlk hW (by omega) ⟨hF4, ⟨hp3.1.1, (hp3.1.2.1.trans k1_1), (hp3.1.2.2.1.trans k1_2), trivial⟩, H2.elim (fun q => absurd q.1 (by omega)) (fun q => Or.inr ⟨by omega, q.2⟩)⟩ dX5_readTerm_9
set_option maxHeartbeats 4000000 in
set_option maxRecDepth 100000 in
theorem c_X5_readSumK1 (l : Launch) (D : va_G) (g : xG) (T : Nat × Nat × Nat) (h0 : Nat) (s0 : xS) (hσ : xRR s0) (q : Int) (rq : xR q) (f9 : Int → Int) (n9 : Int) (qb : Int) (K9 : Int) (b9 : Int) (B9 : Int → Int) (Z : Int × Int × Int × (Int → Int)) (c9 : Int) (C9 : Int → Int) (st : List Int) (s9 : Int) (a9 : Int) (O9 : Int → Int) (V9 : Int → Int) (hq : q = 1) (hf : s0 2 = f9 ∧ s0 1 2 = n9) (hz : zEX f9 n9 qb 0 K9 b9 B9 Z true (s0 1 3) c9 C9 st) (hrd : zRD s0 s9 a9 c9 C9 O9 V9) (hst : qb + zop st = 1) (ht : ztp st < 0 ∨ 7340032 ≤ ztp st) (p0 : IC s0) : Met l yX5_readSum (xws yX5_readSum cX5_readSum 4 (some .boolean)) { frames := 20, cells := 0, slots := 0, locals := 453 } (xP [.ref (h0 + 117), .int (xJ q)] D g T h0 s0) (xQi D g h0 (fun r τ => xFr (fun k => k = 1 ∨ k = 118 ∨ k = 119 ∨ k = 120) s0 τ ∧ (((IC τ) ∧ (τ 1 1 = s0 1 1) ∧ (τ 1 2 = s0 1 2) ∧ True) ∧ ((r = 1 ∧ s0 1 3 + 1 ≤ τ 1 3 ∧ zsg (zch f9 n9 (τ 1 3)) < 2 ∧ ∃ c2 C2, zEX f9 n9 qb 0 K9 b9 B9 Z false (τ 1 3) c2 C2 st ∧ zRD τ s9 a9 c2 C2 O9 V9) ∨ (r = 0 ∧ Z.1 ≠ 0 ∧ τ 1 4 = Z.1))))) 0 0 (xA h0) := by
  refine x_met hσ (by decide) (Nat.le_of_ble_eq_true rfl) ?_
  intro p e s m args below meth c hx hb hr hml hown hT hlk hnm hE hW ls hl
  have hl : lv_has ls 4 [(0, .ref (h0 + 117)), (1, .int (xJ q))] := hl
  obtain ⟨Q, eQ⟩ : ∃ Q, Q = MQ below (xQi D g h0 (fun r τ => xFr (fun k => k = 1 ∨ k = 118 ∨ k = 119 ∨ k = 120) s0 τ ∧ (((IC τ) ∧ (τ 1 1 = s0 1 1) ∧ (τ 1 2 = s0 1 2) ∧ True) ∧ ((r = 1 ∧ s0 1 3 + 1 ≤ τ 1 3 ∧ zsg (zch f9 n9 (τ 1 3)) < 2 ∧ ∃ c2 C2, zEX f9 n9 qb 0 K9 b9 B9 Z false (τ 1 3) c2 C2 st ∧ zRD τ s9 a9 c2 C2 O9 V9) ∨ (r = 0 ∧ Z.1 ≠ 0 ∧ τ 1 4 = Z.1))))) args s 0 0 (xA h0) := ⟨_, rfl⟩
  rw [← eQ]
  generalize hHe : ([] : List Loc) = locs at hW ⊢
  obtain ⟨H, eH⟩ : ∃ H, H = s.heap := ⟨_, rfl⟩
  rw [← eH] at hW ⊢
  have hF : xFr (fun k => k = 1 ∨ k = 118 ∨ k = 119 ∨ k = 120) s0 s0 := xFr.rf
  have k1_1 : s0 1 1 = s0 1 1 := rfl
  have k1_2 : s0 1 2 = s0 1 2 := rfl
  have k1_3 : s0 1 3 = s0 1 3 := rfl
  have hb9 := hz.b
  have hrb := hrd.b
  have hsh := hz.sh
  have hf2 := hf.2
  refine x_aload_n hx hb hl 0 rfl dX5_readSum_0 rfl ?_
  refine x_iload_n hx hb hl 1 rfl dX5_readSum_1 rfl ?_
  refine x_goi (x_runV (As := [.int (xJ q)]) hx hb hml hown hT hE hW hl.1 (Or.inl (by decide)) (so_117 h0 g _) rfl cf_X5_readTerm wq656 wq17 wq654 (c_X5_readTermK1 l D g T h0 s0 hW.2.1 q rq f9 n9 qb K9 b9 B9 Z c9 C9 st s9 a9 O9 V9 (by omega) (by first | exact hf | exact ⟨(hF 2 (by omega)).trans hf.1, by omega⟩) (hz) (hrd) (hst) (by omega) p0) ⟨rfl, rfl, ⟨by decide, by decide⟩, ⟨by decide, by decide⟩⟩ rfl rfl (Nat.le_of_ble_eq_true rfl) dX5_readSum_2) hW (fun x1 s2 H locs rx1 hp3 hW => ?_)
  obtain ⟨fs2, hp3⟩ := hp3
  have hF4 := hF.call fs2 (fun k h => by omega)
  have ghp3 := hp3.2
  have H2 := ghp3
  refine x_if_ne (tgt := 10) hx hb rx1 dX5_readSum_5 (by decide) (fun c5 => ?_) (fun c5 => ?_)
  · skip
    refine x_iconst hx hb dX5_readSum_10 ?_
    refine lv_istore_n (lv' := [(2, .int (xJ 0)), (0, .ref (h0 + 117)), (1, .int (xJ q))]) hx hb dX5_readSum_11 rfl hl (by decide) rfl (fun ls hl => ?_)
    have L12 : ∀ (fu : Nat) (i2_12 : Int) (s_12 : xS) (H : Heap) (locs : List Loc) (ls : Array Slot), (xR i2_12) → (xFr (fun k => k = 1 ∨ k = 118 ∨ k = 119 ∨ k = 120) s0 s_12) → (IC s_12) → (s_12 1 1 = s0 1 1) → (s_12 1 2 = s0 1 2) → (0 ≤ i2_12 ∧ i2_12 + s0 1 3 + 1 ≤ s_12 1 3) → (∃ c2 C2, zEX f9 n9 qb 0 K9 b9 B9 Z false (s_12 1 3) c2 C2 st ∧ zRD s_12 s9 a9 c2 C2 O9 V9) → (zsg (zch f9 n9 (s_12 1 3)) < 4) → (300 - i2_12).toNat < fu → xW D g h0 s H locs s_12 → lv_has ls 4 [(0, .ref (h0 + 117)), (1, .int (xJ q)), (2, .int (xJ i2_12))] → W p l e { frames := 20, cells := 0, slots := 0, locals := 453 } s m args below meth c H locs 0 0 Q (F0 m 12 ls []) := by
      intro fu
      induction fu with
      | zero => intro i2_12 s_12 H locs ls ri2_12 hF_12 q12_0 q12_1 q12_2 v12_0 v12_1 v12_2 hm; exact absurd hm (Nat.not_lt_zero _)
      | succ fu ih12 =>
        intro i2_12 s_12 H locs ls ri2_12 hF_12 q12_0 q12_1 q12_2 v12_0 v12_1 v12_2 hm hW hl
        obtain ⟨c2, C2, hz2, hr2⟩ := v12_1
        have w12 := hz2.b
        refine x_iload_n hx hb hl 2 rfl dX5_readSum_12 rfl ?_
        refine x_sipush hx hb dX5_readSum_13 (by decide) ?_
        refine x_icmp_ge (tgt := 80) hx hb ri2_12 (by decide) dX5_readSum_16 (by decide) (fun c6 => False.elim (by omega)) (fun c6 => ?_)
        refine x_aload_n hx hb hl 0 rfl dX5_readSum_19 rfl ?_
        refine x_get (j := 0) (v := .ref (h0 + 1)) hx hb hown hT hE hW cls_X5 (Or.inl (by decide)) (so_117 h0 g _) (by decide) rfl wq293 dX5_readSum_20 ?_
        refine x_goi (x_runVN (As := []) hx hb hml hown hT hE hW hl.1 (Or.inl (by decide)) (so_1 h0 g _) rfl cf_X8_sign wq581 wq4 wn641 (c_X8_sign l D g T h0 s_12 hW.2.1 q12_0) ⟨rfl, rfl, ⟨by decide, by decide⟩, ⟨by decide, by decide⟩⟩ rfl rfl (Nat.le_of_ble_eq_true rfl) dX5_readSum_23) hW (fun x7 s8 H locs rx7 hp9 hW => ?_)
        obtain ⟨es8, hp9⟩ := hp9
        subst es8
        have ghp9 := hp9
        have C23 : x7 = zch f9 n9 (s_12 1 3) := zch_i (by have q8 := congrFun (show s_12 2 = f9 from (hF_12 2 (by omega)).trans hf.1) (s_12 1 3); have q9 := hf.2; omega)
        have Z12 := zsg_cs (zch f9 n9 (s_12 1 3))
        refine lv_istore_n (lv' := [(3, .int (xJ x7)), (0, .ref (h0 + 117)), (1, .int (xJ q)), (2, .int (xJ i2_12))]) hx hb dX5_readSum_26 rfl hl (by decide) rfl (fun ls hl => ?_)
        refine x_iload_n hx hb hl 0 rfl dX5_readSum_27 rfl ?_
        refine x_bipush hx hb dX5_readSum_28 (by decide) ?_
        have J41 : ∀ (ls : Array Slot), (x7 = 43 ∨ x7 = 45) → lv_has ls 4 [(0, .ref (h0 + 117)), (1, .int (xJ q)), (2, .int (xJ i2_12)), (3, .int (xJ x7))] → W p l e { frames := 20, cells := 0, slots := 0, locals := 453 } s m args below meth c H locs 0 0 Q (F0 m 41 ls []) := by
          intro ls v41_0  hl
          refine x_aload_n hx hb hl 0 rfl dX5_readSum_41 rfl ?_
          refine x_get (j := 0) (v := .ref (h0 + 1)) hx hb hown hT hE hW cls_X5 (Or.inl (by decide)) (so_117 h0 g _) (by decide) rfl wq293 dX5_readSum_42 ?_
          refine lv_dup hx hb dX5_readSum_45 rfl ?_
          refine x_getN (j := 3) (v := .int (xJ (s_12 1 3))) hx hb hown hT hE hW cls_X8 (Or.inl (by decide)) (so_1 h0 g _) (by decide) rfl wn201 dX5_readSum_46 ?_
          refine x_rd hW (fun x10 ex10 rx10 => ?_)
          refine x_iconst hx hb dX5_readSum_49 ?_
          refine x_iadd hx hb dX5_readSum_50 ?_
          refine x_putN (j := 3) hx hb hown hT hE hW cls_X8 (by decide) (fun σ => so_1 h0 g σ) (by decide) (st_X8_3 h0 s_12 1 (x10 + 1)) (ln_X8_3 h0 _ _) wn201 rfl rfl rfl (by omega) dX5_readSum_51 (fun H locs s11 es11 hW => ?_)
          have q12 : IC s11 := by rw [es11]; exact IC_1 q12_0 (by omega)
          have q13 : s11 1 1 = s0 1 1 := (show s11 1 1 = s_12 1 1 from by rw [es11, xU_j _ _ (by decide)]).trans q12_1
          have q14 : s11 1 2 = s0 1 2 := (show s11 1 2 = s_12 1 2 from by rw [es11, xU_j _ _ (by decide)]).trans q12_2
          have q15 : s11 1 3 = (x10 + 1) := by rw [es11, xU_s]
          have hF16 := hF_12.put es11 (by omega)
          have O51 : zEX f9 n9 qb 0 K9 b9 B9 Z true (s11 1 3) c2 C2 ((1048576 * zsg (zch f9 n9 (s_12 1 3))) :: st) := hz2.sga ht (by omega) (by omega) rfl
          refine x_aload_n hx hb hl 0 rfl dX5_readSum_54 rfl ?_
          refine x_iload_n hx hb hl 1 rfl dX5_readSum_55 rfl ?_
          refine x_goi (x_runV (As := [.int (xJ q)]) hx hb hml hown hT hE hW hl.1 (Or.inl (by decide)) (so_117 h0 g _) rfl cf_X5_readTerm wq656 wq17 wq654 (c_X5_readTermK1 l D g T h0 s11 hW.2.1 q rq f9 n9 qb K9 b9 B9 Z c2 C2 ((1048576 * zsg (zch f9 n9 (s_12 1 3))) :: st) s9 a9 O9 V9 (by omega) (by first | exact hf | exact ⟨(hF16 2 (by omega)).trans hf.1, by omega⟩) (O51) (hr2.u es11 (by decide)) (by rw [zop_z (by omega)]; omega) (by show (1048576 * zsg (zch f9 n9 (s_12 1 3)) : Int) < 4194304 ∨ (7340032 : Int) ≤ 1048576 * zsg (zch f9 n9 (s_12 1 3)); omega) q12) ⟨rfl, rfl, ⟨by decide, by decide⟩, ⟨by decide, by decide⟩⟩ rfl rfl (Nat.le_of_ble_eq_true rfl) dX5_readSum_56) hW (fun x17 s18 H locs rx17 hp19 hW => ?_)
          obtain ⟨fs18, hp19⟩ := hp19
          have hF20 := hF16.call fs18 (fun k h => by omega)
          have ghp19 := hp19.2
          have H56 := ghp19
          refine x_if_ne (tgt := 64) hx hb rx17 dX5_readSum_59 (by decide) (fun c21 => ?_) (fun c21 => ?_)
          · skip
            refine x_aload_n hx hb hl 0 rfl dX5_readSum_64 rfl ?_
            refine x_get (j := 1) (v := .ref (h0 + 118)) hx hb hown hT hE hW cls_X5 (Or.inl (by decide)) (so_117 h0 g _) (by decide) rfl wq294 dX5_readSum_65 ?_
            obtain ⟨c3, C3, hz3, hr3⟩ := (H56.resolve_right (fun q => by omega)).2.2.2
            have w3 := hz3.b
            have z3 := zsg_cs (zch f9 n9 (s18 1 3))
            refine x_iload_n hx hb hl 3 rfl dX5_readSum_68 rfl ?_
            refine x_iconst hx hb dX5_readSum_69 ?_
            refine x_goi (x_runVN (As := [.int (xJ x7), .int (xJ 0)]) hx hb hml hown hT hE hW hl.1 (Or.inl (by decide)) (so_118 h0 g _) rfl cf_X4_put wq672 wq21 wn670 (c_X4_putK l D g T h0 s18 hW.2.1 x7 rx7 0 (by decide) hp19.1.1) ⟨rfl, rfl, ⟨by decide, by decide⟩, ⟨by decide, by decide⟩⟩ rfl rfl (Nat.le_of_ble_eq_true rfl) dX5_readSum_70) hW (fun x22 s23 H locs rx22 hp24 hW => ?_)
            obtain ⟨fs23, hp24⟩ := hp24
            have hF25 := hF20.call fs23 (fun k h => by omega)
            have q26 : s23 1 1 = s0 1 1 := (congrFun (fs23 _ (by omega)) _).trans (hp19.1.2.1.trans q13)
            have q27 : s23 1 2 = s0 1 2 := (congrFun (fs23 _ (by omega)) _).trans (hp19.1.2.2.1.trans q14)
            have ghp24 := hp24.2
            have H70 := ghp24 (by have y := hr3.b; omega)
            have M70 := zom_sg (x := zch f9 n9 (s_12 1 3)) rfl (by omega)
            have P70 : s23 1 3 = s18 1 3 := congrFun (fs23 1 (by omega)) 3
            have X70 : ∃ c2 C2, zEX f9 n9 qb 0 K9 b9 B9 Z false (s23 1 3) c2 C2 st ∧ zRD s23 s9 a9 c2 C2 O9 V9 := ⟨c3 + 1, xud C3 c3 (1048576 * zsg (zch f9 n9 (s_12 1 3))), by rw [P70]; exact hz3.add (by omega) (by omega) rfl rfl, hr3.put H70.2.1 H70.2.2.1 H70.2.2.2 (C23.trans M70.1) (M70.2 _) rfl rfl⟩
            refine lv_pop hx hb dX5_readSum_73 rfl ?_
            refine x_iinc (lv' := [(2, .int (xJ (i2_12 + 1))), (0, .ref (h0 + 117)), (1, .int (xJ q)), (3, .int (xJ x7))]) hx hb hl 2 rfl dX5_readSum_74 (by decide) rfl (fun ls hl => ?_)
            refine lv_goto (tgt := 12) hx hb dX5_readSum_77 (by decide) ?_
            exact ih12 (i2_12 + 1) s23 H locs ls (by omega) hF25 hp24.1.1 q26 q27 (by omega) (X70) (by rw [P70]; exact (H56.resolve_right (fun q => by omega)).2.2.1) (by omega) hW (lv_sub hl [1, 2, 0] rfl)
          refine x_iconst hx hb dX5_readSum_62 ?_
          rw [eQ]
          exact x_zret hx hb hr hlk hW (by omega) ⟨hF20, ⟨hp19.1.1, (hp19.1.2.1.trans q13), (hp19.1.2.2.1.trans q14), trivial⟩, H56.elim (fun q => absurd q.1 (by omega)) (fun q => Or.inr ⟨by omega, q.2⟩)⟩ dX5_readSum_63
        refine x_icmp_eq (tgt := 41) hx hb rx7 (by decide) dX5_readSum_30 (by decide) (fun c28 => ?_) (fun c28 => ?_)
        · skip
          exact J41 ls (by omega)  (lv_sub hl [1, 2, 3, 0] rfl)
        refine x_iload_n hx hb hl 0 rfl dX5_readSum_33 rfl ?_
        refine x_bipush hx hb dX5_readSum_34 (by decide) ?_
        refine x_icmp_eq (tgt := 41) hx hb rx7 (by decide) dX5_readSum_36 (by decide) (fun c29 => ?_) (fun c29 => ?_)
        · skip
          exact J41 ls (by omega)  (lv_sub hl [1, 2, 3, 0] rfl)
        refine x_iconst hx hb dX5_readSum_39 ?_
        rw [eQ]
        exact x_zret hx hb hr hlk hW (by omega) ⟨hF_12, ⟨q12_0, q12_1, q12_2, trivial⟩, Or.inl ⟨by omega, by omega, by omega, c2, C2, hz2, hr2⟩⟩ dX5_readSum_40
    exact L12 ((300 - 0 : Int).toNat + 1) 0 s2 H locs ls (by decide) hF4 hp3.1.1 (hp3.1.2.1.trans k1_1) (hp3.1.2.2.1.trans k1_2) (by omega) ((H2.resolve_right (fun q => by omega)).2.2.2) ((H2.resolve_right (fun q => by omega)).2.2.1) (Nat.lt_succ_self _) hW (lv_sub hl [1, 2, 0] rfl)
  refine x_iconst hx hb dX5_readSum_8 ?_
  rw [eQ]
  exact x_zret hx hb hr hlk hW (by omega) ⟨hF4, ⟨hp3.1.1, (hp3.1.2.1.trans k1_1), (hp3.1.2.2.1.trans k1_2), trivial⟩, H2.elim (fun q => absurd q.1 (by omega)) (fun q => Or.inr ⟨by omega, q.2⟩)⟩ dX5_readSum_9

