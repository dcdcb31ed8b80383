set_option maxHeartbeats 4000000 in
set_option maxRecDepth 100000 in
theorem c_X5_readPieceK2 (l : Launch) (D : va_G) (g : xG) (T : Nat × Nat × Nat) (h0 : Nat) (s0 : xS) (hσ : xRR s0) (q : Int) (rq : xR q) (f9 : Int → Int) (n9 : Int) (Z : Int × Int × Int × (Int → Int)) (c9 : Int) (C9 : Int → Int) (st : List Int) (s9 : Int) (a9 : Int) (O9 : Int → Int) (V9 : Int → Int) (hq : q = 2) (hf : s0 2 = f9 ∧ s0 1 2 = n9) (hz : zCX f9 n9 a9 Z true (s0 1 3) c9 C9 st) (hrd : zRD s0 s9 a9 c9 C9 O9 V9) (hst : zqn st = 2) (p0 : IC s0) : Met l yX5_readPiece (xws yX5_readPiece cX5_readPiece 5 (some .boolean)) { frames := 18, cells := 0, slots := 0, locals := 411 } (xP [.ref (h0 + 117), .int (xJ q)] D g T h0 s0) (xQi D g h0 (fun r τ => xFr (fun k => k = 1 ∨ k = 118 ∨ k = 119 ∨ k = 120) s0 τ ∧ (((IC τ) ∧ (τ 1 1 = s0 1 1) ∧ (τ 1 2 = s0 1 2) ∧ True) ∧ ((r = 1 ∧ s0 1 3 + 1 ≤ τ 1 3 ∧ ∃ c2 C2, zCX f9 n9 a9 Z false (τ 1 3) c2 C2 st ∧ zRD τ s9 a9 c2 C2 O9 V9) ∨ (r = 0 ∧ Z.1 ≠ 0 ∧ τ 1 4 = Z.1))))) 0 0 (xA h0) := by
  refine x_met hσ (by decide) (Nat.le_of_ble_eq_true rfl) ?_
  intro p e s m args below meth c hx hb hr hml hown hT hlk hnm hE hW ls hl
  have hl : lv_has ls 5 [(0, .ref (h0 + 117)), (1, .int (xJ q))] := hl
  obtain ⟨Q, eQ⟩ : ∃ Q, Q = MQ below (xQi D g h0 (fun r τ => xFr (fun k => k = 1 ∨ k = 118 ∨ k = 119 ∨ k = 120) s0 τ ∧ (((IC τ) ∧ (τ 1 1 = s0 1 1) ∧ (τ 1 2 = s0 1 2) ∧ True) ∧ ((r = 1 ∧ s0 1 3 + 1 ≤ τ 1 3 ∧ ∃ c2 C2, zCX f9 n9 a9 Z false (τ 1 3) c2 C2 st ∧ zRD τ s9 a9 c2 C2 O9 V9) ∨ (r = 0 ∧ Z.1 ≠ 0 ∧ τ 1 4 = Z.1))))) args s 0 0 (xA h0) := ⟨_, rfl⟩
  rw [← eQ]
  generalize hHe : ([] : List Loc) = locs at hW ⊢
  obtain ⟨H, eH⟩ : ∃ H, H = s.heap := ⟨_, rfl⟩
  rw [← eH] at hW ⊢
  have hF : xFr (fun k => k = 1 ∨ k = 118 ∨ k = 119 ∨ k = 120) s0 s0 := xFr.rf
  have k1_1 : s0 1 1 = s0 1 1 := rfl
  have k1_2 : s0 1 2 = s0 1 2 := rfl
  have k1_3 : s0 1 3 = s0 1 3 := rfl
  have hb9 := hz.b
  have hrb := hrd.b
  have hf2 := hf.2
  refine x_aload_n hx hb hl 0 rfl dX5_readPiece_0 rfl ?_
  refine x_get (j := 0) (v := .ref (h0 + 1)) hx hb hown hT hE hW cls_X5 (Or.inl (by decide)) (so_117 h0 g _) (by decide) rfl wq293 dX5_readPiece_1 ?_
  refine x_goi (x_runVN (As := []) hx hb hml hown hT hE hW hl.1 (Or.inl (by decide)) (so_1 h0 g _) rfl cf_X8_sign wq581 wq4 wn641 (c_X8_sign l D g T h0 s0 hW.2.1 p0) ⟨rfl, rfl, ⟨by decide, by decide⟩, ⟨by decide, by decide⟩⟩ rfl rfl (Nat.le_of_ble_eq_true rfl) dX5_readPiece_4) hW (fun x1 s2 H locs rx1 hp3 hW => ?_)
  obtain ⟨es2, hp3⟩ := hp3
  subst es2
  have ghp3 := hp3
  have C4 : x1 = zch f9 n9 (s0 1 3) := zch_i (by have q8 := congrFun (show s0 2 = f9 from hf.1) (s0 1 3); have q9 := hf.2; omega)
  refine lv_istore_n (lv' := [(2, .int (xJ x1)), (0, .ref (h0 + 117)), (1, .int (xJ q))]) hx hb dX5_readPiece_7 rfl hl (by decide) rfl (fun ls hl => ?_)
  refine x_iload_n hx hb hl 0 rfl dX5_readPiece_8 rfl ?_
  refine x_bipush hx hb dX5_readPiece_9 (by decide) ?_
  have J20 : ∀ (ls : Array Slot), (zch f9 n9 (s0 1 3) = x1 ∧ (x1 = 33 ∨ x1 = 40)) → lv_has ls 5 [(0, .ref (h0 + 117)), (1, .int (xJ q)), (2, .int (xJ x1))] → W p l e { frames := 18, cells := 0, slots := 0, locals := 411 } s m args below meth c H locs 0 0 Q (F0 m 20 ls []) := by
    intro ls v20_0  hl
    refine x_iload_n hx hb hl 1 rfl dX5_readPiece_20 rfl ?_
    refine x_bipush hx hb dX5_readPiece_21 (by decide) ?_
    refine x_icmp_lt (tgt := 42) hx hb rq (by decide) dX5_readPiece_23 (by decide) (fun c4 => ?_) (fun c4 => False.elim (by omega))
    refine x_aload_n hx hb hl 0 rfl dX5_readPiece_42 rfl ?_
    refine x_get (j := 0) (v := .ref (h0 + 1)) hx hb hown hT hE hW cls_X5 (Or.inl (by decide)) (so_117 h0 g _) (by decide) rfl wq293 dX5_readPiece_43 ?_
    refine lv_dup hx hb dX5_readPiece_46 rfl ?_
    refine x_getN (j := 3) (v := .int (xJ (s0 1 3))) hx hb hown hT hE hW cls_X8 (Or.inl (by decide)) (so_1 h0 g _) (by decide) rfl wn201 dX5_readPiece_47 ?_
    refine x_rd hW (fun x5 ex5 rx5 => ?_)
    have fx5 : x5 = s0 1 3 := ex5.trans k1_3
    refine x_iconst hx hb dX5_readPiece_50 ?_
    refine x_iadd hx hb dX5_readPiece_51 ?_
    refine x_putN (j := 3) hx hb hown hT hE hW cls_X8 (by decide) (fun σ => so_1 h0 g σ) (by decide) (st_X8_3 h0 s0 1 (x5 + 1)) (ln_X8_3 h0 _ _) wn201 rfl rfl rfl (by omega) dX5_readPiece_52 (fun H locs s6 es6 hW => ?_)
    have q7 : IC s6 := by rw [es6]; exact IC_1 p0 (by omega)
    have q8 : s6 1 1 = s0 1 1 := (show s6 1 1 = s0 1 1 from by rw [es6, xU_j _ _ (by decide)]).trans k1_1
    have q9 : s6 1 2 = s0 1 2 := (show s6 1 2 = s0 1 2 from by rw [es6, xU_j _ _ (by decide)]).trans k1_2
    have q10 : s6 1 3 = (x5 + 1) := by rw [es6, xU_s]
    have hF11 := hF.put es6 (by omega)
    refine x_iload_n hx hb hl 2 rfl dX5_readPiece_55 rfl ?_
    refine x_bipush hx hb dX5_readPiece_56 (by decide) ?_
    refine x_icmp_ne (tgt := 89) hx hb rx1 (by decide) dX5_readPiece_58 (by decide) (fun c12 => ?_) (fun c12 => ?_)
    · skip
      refine x_aload_n hx hb hl 0 rfl dX5_readPiece_89 rfl ?_
      refine x_iload_n hx hb hl 1 rfl dX5_readPiece_90 rfl ?_
      refine x_iconst hx hb dX5_readPiece_91 ?_
      refine x_iadd hx hb dX5_readPiece_92 ?_
      refine x_goi (x_runV (As := [.int (xJ (q + 1))]) hx hb hml hown hT hE hW hl.1 (Or.inl (by decide)) (so_117 h0 g _) rfl cf_X5_readPiece wq688 wq24 wq686 (c_X5_readPieceK3 l D g T h0 s6 hW.2.1 (q + 1) (by omega) f9 n9 Z c9 C9 (10485760 :: st) s9 a9 O9 V9 (by omega) (by first | exact hf | exact ⟨(hF11 2 (by omega)).trans hf.1, by omega⟩) (hz.open_ (Or.inl ⟨by omega, rfl⟩) (by omega) (by omega)) (hrd.u es6 (by decide)) (by rw [zqn_y (by decide)]; omega) q7) ⟨rfl, rfl, ⟨by decide, by decide⟩, ⟨by decide, by decide⟩⟩ rfl rfl (Nat.le_of_ble_eq_true rfl) dX5_readPiece_93) hW (fun x13 s14 H locs rx13 hp15 hW => ?_)
      obtain ⟨fs14, hp15⟩ := hp15
      have hF16 := hF11.call fs14 (fun k h => by omega)
      have ghp15 := hp15.2
      have H93 := ghp15
      refine lv_istore_n (lv' := [(3, .int (xJ x13)), (0, .ref (h0 + 117)), (1, .int (xJ q)), (2, .int (xJ x1))]) hx hb dX5_readPiece_96 rfl hl (by decide) rfl (fun ls hl => ?_)
      refine x_aload_n hx hb hl 1 rfl dX5_readPiece_97 rfl ?_
      refine x_get (j := 1) (v := .ref (h0 + 118)) hx hb hown hT hE hW cls_X5 (Or.inl (by decide)) (so_117 h0 g _) (by decide) rfl wq294 dX5_readPiece_98 ?_
      refine x_iconst hx hb dX5_readPiece_101 ?_
      refine x_iconst hx hb dX5_readPiece_102 ?_
      refine x_goi (x_runVN (As := [.int (xJ 3), .int (xJ 0)]) hx hb hml hown hT hE hW hl.1 (Or.inl (by decide)) (so_118 h0 g _) rfl cf_X4_put wq672 wq21 wn670 (c_X4_putK l D g T h0 s14 hW.2.1 3 (by decide) 0 (by decide) hp15.1.1) ⟨rfl, rfl, ⟨by decide, by decide⟩, ⟨by decide, by decide⟩⟩ rfl rfl (Nat.le_of_ble_eq_true rfl) dX5_readPiece_103) hW (fun x17 s18 H locs rx17 hp19 hW => ?_)
      obtain ⟨fs18, hp19⟩ := hp19
      have hF20 := hF16.call fs18 (fun k h => by omega)
      have q21 : s18 1 1 = s0 1 1 := (congrFun (fs18 _ (by omega)) _).trans (hp15.1.2.1.trans q8)
      have q22 : s18 1 2 = s0 1 2 := (congrFun (fs18 _ (by omega)) _).trans (hp15.1.2.2.1.trans q9)
      have ghp19 := hp19.2
      have H103 := ghp19
      refine lv_pop hx hb dX5_readPiece_106 rfl ?_
      refine x_iload_n hx hb hl 0 rfl dX5_readPiece_107 rfl ?_
      rw [eQ]
      exact x_zret hx hb hr hlk hW (by omega) ⟨hF20, ⟨hp19.1.1, q21, q22, trivial⟩, (by
    have u3 : s18 1 3 = s14 1 3 := congrFun (fs18 1 (by omega)) 3
    have u4 : s18 1 4 = s14 1 4 := congrFun (fs18 1 (by omega)) 4
    rcases H93 with q | q
    · obtain ⟨c3, C3, hz3, hr3⟩ := q.2.2
      have y := hr3.b
      have y2 := hz3.b
      have P := H103 (by omega)
      exact Or.inl ⟨q.1, by omega, c3 + 1, xud C3 c3 10485760, by rw [u3]; exact hz3.not (by decide) rfl rfl, hr3.put P.2.1 P.2.2.1 P.2.2.2 (by decide) (zwm_0 _).1 rfl rfl⟩
    · exact Or.inr ⟨q.1, q.2.1, u4.trans q.2.2⟩)⟩ dX5_readPiece_108
    refine x_aload_n hx hb hl 0 rfl dX5_readPiece_61 rfl ?_
    refine x_iload_n hx hb hl 1 rfl dX5_readPiece_62 rfl ?_
    refine x_iconst hx hb dX5_readPiece_63 ?_
    refine x_iadd hx hb dX5_readPiece_64 ?_
    refine x_goi (x_runV (As := [.int (xJ (q + 1))]) hx hb hml hown hT hE hW hl.1 (Or.inl (by decide)) (so_117 h0 g _) rfl cf_X5_readParts wq680 wq22 wq678 (c_X5_readPartsK3 l D g T h0 s6 hW.2.1 (q + 1) (by omega) f9 n9 Z c9 C9 (13631488 :: st) s9 a9 O9 V9 (by omega) (by first | exact hf | exact ⟨(hF11 2 (by omega)).trans hf.1, by omega⟩) (hz.open_ (Or.inr ⟨by omega, rfl⟩) (by omega) (by omega)) (hrd.u es6 (by decide)) (by rw [zqn_y (by decide)]; omega) ((by decide : (13631488 : Int) ≤ 13631488)) q7) ⟨rfl, rfl, ⟨by decide, by decide⟩, ⟨by decide, by decide⟩⟩ rfl rfl (Nat.le_of_ble_eq_true rfl) dX5_readPiece_65) hW (fun x23 s24 H locs rx23 hp25 hW => ?_)
    obtain ⟨fs24, hp25⟩ := hp25
    have hF26 := hF11.call fs24 (fun k h => by omega)
    have ghp25 := hp25.2
    have H65 := ghp25
    have G65 : s24 2 = f9 ∧ s24 1 2 = n9 := ⟨(hF26 2 (by omega)).trans hf.1, by omega⟩
    refine x_if_eq (tgt := 87) hx hb rx23 dX5_readPiece_68 (by decide) (fun c27 => ?_) (fun c27 => ?_)
    · skip
      refine x_iconst hx hb dX5_readPiece_87 ?_
      rw [eQ]
      exact x_zret hx hb hr hlk hW (by omega) ⟨hF26, ⟨hp25.1.1, (hp25.1.2.1.trans q8), (hp25.1.2.2.1.trans q9), trivial⟩, by first | exact H65.elim (fun q => absurd q.1 (by omega)) (fun q => Or.inr ⟨by omega, q.2⟩) | exact Or.inl ⟨by omega, by omega, c3, C3, hz3.shut (by decide) (by omega) (by omega), hr3.f (congrFun (fs24 118 (by omega)) 2) (fs24 119 (by omega)) (fs24 120 (by omega))⟩ | (have z := zCX.bad _ _ _ hz3 (List.cons_ne_nil _ _) h73.1 h73.2.1 (by omega); exact Or.inr ⟨by omega, by omega, by omega⟩)⟩ dX5_readPiece_88
    refine x_aload_n hx hb hl 0 rfl dX5_readPiece_71 rfl ?_
    obtain ⟨c3, C3, hz3, hr3⟩ := (H65.resolve_right (fun q => by omega)).2.2.2.2
    have h73 := (H65.resolve_right (fun q => by omega)).2.2
    have w65 := hz3.b
    refine x_get (j := 0) (v := .ref (h0 + 1)) hx hb hown hT hE hW cls_X5 (Or.inl (by decide)) (so_117 h0 g _) (by decide) rfl wq293 dX5_readPiece_72 ?_
    refine x_bipush hx hb dX5_readPiece_75 (by decide) ?_
    refine x_goi (x_runVN (As := [.int (xJ 41)]) hx hb hml hown hT hE hW hl.1 (Or.inl (by decide)) (so_1 h0 g _) rfl cf_X8_passes wq598 wq6 wn674 (c_X8_passesM l D g T h0 s24 hW.2.1 41 (by decide) (by omega) (by omega) hp25.1.1) ⟨rfl, rfl, ⟨by decide, by decide⟩, ⟨by decide, by decide⟩⟩ rfl rfl (Nat.le_of_ble_eq_true rfl) dX5_readPiece_77) hW (fun x28 s29 H locs rx28 hp30 hW => ?_)
    obtain ⟨fs29, hp30⟩ := hp30
    have hF31 := hF26.call fs29 (fun k h => by omega)
    have ghp30 := hp30.2
    have H77 := ghp30
    rw [G65.1, G65.2] at H77
    refine x_if_eq (tgt := 87) hx hb rx28 dX5_readPiece_80 (by decide) (fun c32 => ?_) (fun c32 => ?_)
    · skip
      refine x_iconst hx hb dX5_readPiece_87 ?_
      rw [eQ]
      exact x_zret hx hb hr hlk hW (by omega) ⟨hF31, ⟨hp30.1.1, (hp30.1.2.1.trans (hp25.1.2.1.trans q8)), (hp30.1.2.2.1.trans (hp25.1.2.2.1.trans q9)), trivial⟩, by first | exact H65.elim (fun q => absurd q.1 (by omega)) (fun q => Or.inr ⟨by omega, q.2⟩) | exact Or.inl ⟨by omega, by omega, c3, C3, hz3.shut (by decide) (by omega) (by omega), hr3.f (congrFun (fs29 118 (by omega)) 2) (fs29 119 (by omega)) (fs29 120 (by omega))⟩ | (have z := zCX.bad _ _ _ hz3 (List.cons_ne_nil _ _) h73.1 h73.2.1 (by omega); exact Or.inr ⟨by omega, by omega, by omega⟩)⟩ dX5_readPiece_88
    refine x_iconst hx hb dX5_readPiece_83 ?_
    refine lv_goto (tgt := 88) hx hb dX5_readPiece_84 (by decide) ?_
    rw [eQ]
    exact x_zret hx hb hr hlk hW (by omega) ⟨hF31, ⟨hp30.1.1, (hp30.1.2.1.trans (hp25.1.2.1.trans q8)), (hp30.1.2.2.1.trans (hp25.1.2.2.1.trans q9)), trivial⟩, by first | exact H65.elim (fun q => absurd q.1 (by omega)) (fun q => Or.inr ⟨by omega, q.2⟩) | exact Or.inl ⟨by omega, by omega, c3, C3, hz3.shut (by decide) (by omega) (by omega), hr3.f (congrFun (fs29 118 (by omega)) 2) (fs29 119 (by omega)) (fs29 120 (by omega))⟩ | (have z := zCX.bad _ _ _ hz3 (List.cons_ne_nil _ _) h73.1 h73.2.1 (by omega); exact Or.inr ⟨by omega, by omega, by omega⟩)⟩ dX5_readPiece_88
  refine x_icmp_eq (tgt := 20) hx hb rx1 (by decide) dX5_readPiece_11 (by decide) (fun c33 => ?_) (fun c33 => ?_)
  · skip
    exact J20 ls (by omega)  (lv_sub hl [1, 2, 0] rfl)
  refine x_iload_n hx hb hl 0 rfl dX5_readPiece_14 rfl ?_
  refine x_bipush hx hb dX5_readPiece_15 (by decide) ?_
  refine x_icmp_ne (tgt := 109) hx hb rx1 (by decide) dX5_readPiece_17 (by decide) (fun c34 => ?_) (fun c34 => ?_)
  · skip
    refine x_aload_n hx hb hl 1 rfl dX5_readPiece_109 rfl ?_
    refine x_iload_n hx hb hl 2 rfl dX5_readPiece_110 rfl ?_
    refine x_goi (x_runV (As := [.int (xJ q)]) hx hb hml hown hT hE hW hl.1 (Or.inl (by decide)) (so_117 h0 g _) rfl cf_X5_readSum wq652 wq16 wq650 (c_X5_readSumK2 l D g T h0 s0 hW.2.1 q rq f9 n9 (zqn st) (znN st) c9 C9 (zE0 f9 n9 (zqn st) (s0 1 3) c9 C9) c9 C9 ([] : List Int) s9 a9 O9 V9 (by omega) (by first | exact hf | exact ⟨(hF 2 (by omega)).trans hf.1, by omega⟩) (zEX.new (by omega)) (hrd) (by show zqn st + 0 = _; omega) (Or.inl (by decide)) p0) ⟨rfl, rfl, ⟨by decide, by decide⟩, ⟨by decide, by decide⟩⟩ rfl rfl (Nat.le_of_ble_eq_true rfl) dX5_readPiece_111) hW (fun x35 s36 H locs rx35 hp37 hW => ?_)
    obtain ⟨fs36, hp37⟩ := hp37
    have hF38 := hF.call fs36 (fun k h => by omega)
    have ghp37 := hp37.2
    have H111 := ghp37
    refine x_if_ne (tgt := 119) hx hb rx35 dX5_readPiece_114 (by decide) (fun c39 => ?_) (fun c39 => ?_)
    · skip
      refine x_aload_n hx hb hl 1 rfl dX5_readPiece_119 rfl ?_
      refine x_get (j := 0) (v := .ref (h0 + 1)) hx hb hown hT hE hW cls_X5 (Or.inl (by decide)) (so_117 h0 g _) (by decide) rfl wq293 dX5_readPiece_120 ?_
      refine x_goi (x_runVN (As := []) hx hb hml hown hT hE hW hl.1 (Or.inl (by decide)) (so_1 h0 g _) rfl cf_X8_sign wq581 wq4 wn641 (c_X8_sign l D g T h0 s36 hW.2.1 hp37.1.1) ⟨rfl, rfl, ⟨by decide, by decide⟩, ⟨by decide, by decide⟩⟩ rfl rfl (Nat.le_of_ble_eq_true rfl) dX5_readPiece_123) hW (fun x40 s41 H locs rx40 hp42 hW => ?_)
      obtain ⟨es41, hp42⟩ := hp42
      subst es41
      have ghp42 := hp42
      obtain ⟨c5, C5, hz5, hr5⟩ := (H111.resolve_right (fun q => by omega)).2.2.2
      obtain ⟨p5, ep5⟩ : ∃ p5 : Int, p5 = s36 1 3 := ⟨_, rfl⟩
      have F5 := hz5.fin (H111.resolve_right (fun q => by omega)).2.2.1
      rw [← ep5] at F5
      have b5 := hz5.b
      have o5 := hz5.1
      have C123 : x40 = zch f9 n9 (s36 1 3) := zch_i (by have q8 := congrFun (show s36 2 = f9 from (hF38 2 (by omega)).trans hf.1) (s36 1 3); have q9 := hf.2; omega)
      rw [← ep5] at C123
      have z123 := zcp_cs (zch f9 n9 p5)
      refine lv_istore_n (lv' := [(3, .int (xJ x40)), (2, .int (xJ x1)), (0, .ref (h0 + 117)), (1, .int (xJ q))]) hx hb dX5_readPiece_126 rfl hl (by decide) rfl (fun ls hl => ?_)
      refine x_iload_n hx hb hl 0 rfl dX5_readPiece_127 rfl ?_
      refine x_bipush hx hb dX5_readPiece_128 (by decide) ?_
      have J161 : ∀ (ls : Array Slot), (x40 = 60 ∨ x40 = 62 ∨ x40 = 61) → lv_has ls 5 [(0, .ref (h0 + 117)), (1, .int (xJ q)), (3, .int (xJ x40))] → W p l e { frames := 18, cells := 0, slots := 0, locals := 411 } s m args below meth c H locs 0 0 Q (F0 m 161 ls []) := by
        intro ls v161_0  hl
        refine x_aload_n hx hb hl 0 rfl dX5_readPiece_161 rfl ?_
        refine x_get (j := 0) (v := .ref (h0 + 1)) hx hb hown hT hE hW cls_X5 (Or.inl (by decide)) (so_117 h0 g _) (by decide) rfl wq293 dX5_readPiece_162 ?_
        refine lv_dup hx hb dX5_readPiece_165 rfl ?_
        refine x_getN (j := 3) (v := .int (xJ (s36 1 3))) hx hb hown hT hE hW cls_X8 (Or.inl (by decide)) (so_1 h0 g _) (by decide) rfl wn201 dX5_readPiece_166 ?_
        refine x_rd hW (fun x43 ex43 rx43 => ?_)
        refine x_iconst hx hb dX5_readPiece_169 ?_
        refine x_iadd hx hb dX5_readPiece_170 ?_
        refine x_putN (j := 3) hx hb hown hT hE hW cls_X8 (by decide) (fun σ => so_1 h0 g σ) (by decide) (st_X8_3 h0 s36 1 (x43 + 1)) (ln_X8_3 h0 _ _) wn201 rfl rfl rfl (by omega) dX5_readPiece_171 (fun H locs s44 es44 hW => ?_)
        have q45 : IC s44 := by rw [es44]; exact IC_1 hp37.1.1 (by omega)
        have q46 : s44 1 1 = s0 1 1 := (show s44 1 1 = s36 1 1 from by rw [es44, xU_j _ _ (by decide)]).trans (hp37.1.2.1.trans k1_1)
        have q47 : s44 1 2 = s0 1 2 := (show s44 1 2 = s36 1 2 from by rw [es44, xU_j _ _ (by decide)]).trans (hp37.1.2.2.1.trans k1_2)
        have q48 : s44 1 3 = (x43 + 1) := by rw [es44, xU_s]
        have hF49 := hF38.put es44 (by omega)
        refine x_aload_n hx hb hl 0 rfl dX5_readPiece_174 rfl ?_
        refine x_iload_n hx hb hl 1 rfl dX5_readPiece_175 rfl ?_
        refine x_goi (x_runV (As := [.int (xJ q)]) hx hb hml hown hT hE hW hl.1 (Or.inl (by decide)) (so_117 h0 g _) rfl cf_X5_readSum wq652 wq16 wq650 (c_X5_readSumK2 l D g T h0 s44 hW.2.1 q rq f9 n9 (zqn st) (znN st + 1) c5 C5 (zE0 f9 n9 (zqn st) (p5 + 1) c5 C5) c5 C5 ([] : List Int) s9 a9 O9 V9 (by omega) (by first | exact hf | exact ⟨(hF49 2 (by omega)).trans hf.1, by omega⟩) (by rw [show p5 + 1 = s44 1 3 from by omega]; exact zEX.new (by omega)) (hr5.u es44 (by decide)) (by show zqn st + 0 = _; omega) (Or.inl (by decide)) q45) ⟨rfl, rfl, ⟨by decide, by decide⟩, ⟨by decide, by decide⟩⟩ rfl rfl (Nat.le_of_ble_eq_true rfl) dX5_readPiece_176) hW (fun x50 s51 H locs rx50 hp52 hW => ?_)
        obtain ⟨fs51, hp52⟩ := hp52
        have hF53 := hF49.call fs51 (fun k h => by omega)
        have ghp52 := hp52.2
        have H176 := ghp52
        refine lv_istore (lv' := [(4, .int (xJ x50)), (0, .ref (h0 + 117)), (1, .int (xJ q)), (3, .int (xJ x40))]) hx hb dX5_readPiece_179 hl (by decide) rfl (fun ls hl => ?_)
        refine x_aload_n hx hb hl 1 rfl dX5_readPiece_181 rfl ?_
        refine x_get (j := 1) (v := .ref (h0 + 118)) hx hb hown hT hE hW cls_X5 (Or.inl (by decide)) (so_117 h0 g _) (by decide) rfl wq294 dX5_readPiece_182 ?_
        refine x_iload_n hx hb hl 3 rfl dX5_readPiece_185 rfl ?_
        refine x_iconst hx hb dX5_readPiece_186 ?_
        refine x_goi (x_runVN (As := [.int (xJ x40), .int (xJ 0)]) hx hb hml hown hT hE hW hl.1 (Or.inl (by decide)) (so_118 h0 g _) rfl cf_X4_put wq672 wq21 wn670 (c_X4_putK l D g T h0 s51 hW.2.1 x40 rx40 0 (by decide) hp52.1.1) ⟨rfl, rfl, ⟨by decide, by decide⟩, ⟨by decide, by decide⟩⟩ rfl rfl (Nat.le_of_ble_eq_true rfl) dX5_readPiece_187) hW (fun x54 s55 H locs rx54 hp56 hW => ?_)
        obtain ⟨fs55, hp56⟩ := hp56
        have hF57 := hF53.call fs55 (fun k h => by omega)
        have q58 : s55 1 1 = s0 1 1 := (congrFun (fs55 _ (by omega)) _).trans (hp52.1.2.1.trans q46)
        have q59 : s55 1 2 = s0 1 2 := (congrFun (fs55 _ (by omega)) _).trans (hp52.1.2.2.1.trans q47)
        have ghp56 := hp56.2
        have H187 := ghp56
        refine lv_pop hx hb dX5_readPiece_190 rfl ?_
        refine x_iload hx hb hl 0 rfl dX5_readPiece_191 ?_
        rw [eQ]
        exact x_zret hx hb hr hlk hW (by omega) ⟨hF57, ⟨hp56.1.1, q58, q59, trivial⟩, (by
    have u3 : s55 1 3 = s51 1 3 := congrFun (fs55 1 (by omega)) 3
    have u4 : s55 1 4 = s51 1 4 := congrFun (fs55 1 (by omega)) 4
    rcases H176 with q | q
    · obtain ⟨c6, C6, hz6, hr6⟩ := q.2.2.2
      have F6 := hz6.fin q.2.2.1
      have y := hr6.b
      have y2 := hz6.b
      have o6 := hz6.1
      have P := H187 (by omega)
      have M := zom_cp (x := x40) (v := 1048576 * zcp (zch f9 n9 p5)) (by rw [C123]) (by rw [C123]; omega)
      refine Or.inl ⟨q.1, by omega, c6 + 1, xud C6 c6 (1048576 * zcp (zch f9 n9 p5)), ?_, hr6.put P.2.1 P.2.2.1 P.2.2.2 M.1 (M.2 _) rfl rfl⟩
      rw [u3]
      exact hz.cmp (by omega) F5 (by omega) (p2 := s51 1 3) F6 (by omega) (fun k hk => by rw [o6.2 k (by omega), o5.2 k hk]) rfl rfl
    · have z := hz.e2 (by omega) F5 (by omega) q.2.1
      rw [z]
      exact Or.inr ⟨q.1, q.2.1, u4.trans q.2.2⟩)⟩ dX5_readPiece_193
      refine x_icmp_eq (tgt := 161) hx hb rx40 (by decide) dX5_readPiece_130 (by decide) (fun c60 => ?_) (fun c60 => ?_)
      · skip
        exact J161 ls (by omega)  (lv_sub hl [2, 3, 0] rfl)
      refine x_iload_n hx hb hl 0 rfl dX5_readPiece_133 rfl ?_
      refine x_bipush hx hb dX5_readPiece_134 (by decide) ?_
      refine x_icmp_eq (tgt := 161) hx hb rx40 (by decide) dX5_readPiece_136 (by decide) (fun c61 => ?_) (fun c61 => ?_)
      · skip
        exact J161 ls (by omega)  (lv_sub hl [2, 3, 0] rfl)
      refine x_iload_n hx hb hl 0 rfl dX5_readPiece_139 rfl ?_
      refine x_bipush hx hb dX5_readPiece_140 (by decide) ?_
      refine x_icmp_eq (tgt := 161) hx hb rx40 (by decide) dX5_readPiece_142 (by decide) (fun c62 => ?_) (fun c62 => ?_)
      · skip
        exact J161 ls (by omega)  (lv_sub hl [2, 3, 0] rfl)
      refine x_aload_n hx hb hl 2 rfl dX5_readPiece_145 rfl ?_
      refine x_get (j := 0) (v := .ref (h0 + 1)) hx hb hown hT hE hW cls_X5 (Or.inl (by decide)) (so_117 h0 g _) (by decide) rfl wq293 dX5_readPiece_146 ?_
      refine x_iconst hx hb dX5_readPiece_149 ?_
      refine x_aload_n hx hb hl 2 rfl dX5_readPiece_150 rfl ?_
      refine x_get (j := 0) (v := .ref (h0 + 1)) hx hb hown hT hE hW cls_X5 (Or.inl (by decide)) (so_117 h0 g _) (by decide) rfl wq293 dX5_readPiece_151 ?_
      refine x_getN (j := 3) (v := .int (xJ (s36 1 3))) hx hb hown hT hE hW cls_X8 (Or.inl (by decide)) (so_1 h0 g _) (by decide) rfl wn201 dX5_readPiece_154 ?_
      refine x_rd hW (fun x63 ex63 rx63 => ?_)
      refine x_goi (x_runVN (As := [.int (xJ 1), .int (xJ x63)]) hx hb hml hown hT hE hW hl.1 (Or.inl (by decide)) (so_1 h0 g _) rfl cf_X8_fails wq588 wq5 wn645 (c_X8_failsM l D g T h0 s36 hW.2.1 1 (by decide) x63 rx63 (by omega) hp37.1.1) ⟨rfl, rfl, ⟨by decide, by decide⟩, ⟨by decide, by decide⟩⟩ rfl rfl (Nat.le_of_ble_eq_true rfl) dX5_readPiece_157) hW (fun x64 s65 H locs rx64 hp66 hW => ?_)
      obtain ⟨fs65, hp66⟩ := hp66
      have hF67 := hF38.call fs65 (fun k h => by omega)
      have ghp66 := hp66.2
      rw [eQ]
      exact x_zret hx hb hr hlk hW (by omega) ⟨hF67, ⟨hp66.1.1, (hp66.1.2.1.trans (hp37.1.2.1.trans k1_1)), (hp66.1.2.2.1.trans (hp37.1.2.2.1.trans k1_2)), trivial⟩, (by
    have z := hz.one (by omega) F5 (by omega)
    rw [z]
    exact Or.inr ⟨by omega, (by show (-1000 - _ : Int) ≠ 0; omega), (by show _ = (-1000 - _ : Int); omega)⟩)⟩ dX5_readPiece_160
    refine x_iconst hx hb dX5_readPiece_117 ?_
    rw [eQ]
    exact x_zret hx hb hr hlk hW (by omega) ⟨hF38, ⟨hp37.1.1, (hp37.1.2.1.trans k1_1), (hp37.1.2.2.1.trans k1_2), trivial⟩, (by
    have e := H111.elim (fun q => absurd q.1 (by omega)) (fun q => q)
    have z := hz.e1 (by omega) e.2.1
    rw [z]
    exact Or.inr ⟨by omega, e.2.1, e.2.2⟩)⟩ dX5_readPiece_118
  exact J20 ls (by omega)  (lv_sub hl [1, 2, 0] rfl)
set_option maxHeartbeats 4000000 in
set_option maxRecDepth 100000 in
theorem c_X5_readPiecesK2 (l : Launch) (D : va_G) (g : xG) (T : Nat × Nat × Nat) (h0 : Nat) (s0 : xS) (hσ : xRR s0) (q : Int) (rq : xR q) (f9 : Int → Int) (n9 : Int) (Z : Int × Int × Int × (Int → Int)) (c9 : Int) (C9 : Int → Int) (st : List Int) (s9 : Int) (a9 : Int) (O9 : Int → Int) (V9 : Int → Int) (hq : q = 2) (hf : s0 2 = f9 ∧ s0 1 2 = n9) (hz : zCX f9 n9 a9 Z true (s0 1 3) c9 C9 st) (hrd : zRD s0 s9 a9 c9 C9 O9 V9) (hst : zqn st = 2) (ht : 12582912 ≤ ztp st) (p0 : IC s0) : Met l yX5_readPieces (xws yX5_readPieces cX5_readPieces 4 (some .boolean)) { frames := 19, cells := 0, slots := 0, locals := 435 } (xP [.ref (h0 + 117), .int (xJ q)] D g T h0 s0) (xQi D g h0 (fun r τ => xFr (fun k => k = 1 ∨ k = 118 ∨ k = 119 ∨ k = 120) s0 τ ∧ (((IC τ) ∧ (τ 1 1 = s0 1 1) ∧ (τ 1 2 = s0 1 2) ∧ True) ∧ ((r = 1 ∧ s0 1 3 + 1 ≤ τ 1 3 ∧ zch f9 n9 (τ 1 3) ≠ 38 ∧ ∃ c2 C2, zCX f9 n9 a9 Z false (τ 1 3) c2 C2 st ∧ zRD τ s9 a9 c2 C2 O9 V9) ∨ (r = 0 ∧ Z.1 ≠ 0 ∧ τ 1 4 = Z.1))))) 0 0 (xA h0) := by
  refine x_met hσ (by decide) (Nat.le_of_ble_eq_true rfl) ?_
  intro p e s m args below meth c hx hb hr hml hown hT hlk hnm hE hW ls hl
  have hl : lv_has ls 4 [(0, .ref (h0 + 117)), (1, .int (xJ q))] := hl
  obtain ⟨Q, eQ⟩ : ∃ Q, Q = MQ below (xQi D g h0 (fun r τ => xFr (fun k => k = 1 ∨ k = 118 ∨ k = 119 ∨ k = 120) s0 τ ∧ (((IC τ) ∧ (τ 1 1 = s0 1 1) ∧ (τ 1 2 = s0 1 2) ∧ True) ∧ ((r = 1 ∧ s0 1 3 + 1 ≤ τ 1 3 ∧ zch f9 n9 (τ 1 3) ≠ 38 ∧ ∃ c2 C2, zCX f9 n9 a9 Z false (τ 1 3) c2 C2 st ∧ zRD τ s9 a9 c2 C2 O9 V9) ∨ (r = 0 ∧ Z.1 ≠ 0 ∧ τ 1 4 = Z.1))))) args s 0 0 (xA h0) := ⟨_, rfl⟩
  rw [← eQ]
  generalize hHe : ([] : List Loc) = locs at hW ⊢
  obtain ⟨H, eH⟩ : ∃ H, H = s.heap := ⟨_, rfl⟩
  rw [← eH] at hW ⊢
  have hF : xFr (fun k => k = 1 ∨ k = 118 ∨ k = 119 ∨ k = 120) s0 s0 := xFr.rf
  have k1_1 : s0 1 1 = s0 1 1 := rfl
  have k1_2 : s0 1 2 = s0 1 2 := rfl
  have k1_3 : s0 1 3 = s0 1 3 := rfl
  have hb9 := hz.b
  have hrb := hrd.b
  have hf2 := hf.2
  refine x_aload_n hx hb hl 0 rfl dX5_readPieces_0 rfl ?_
  refine x_iload_n hx hb hl 1 rfl dX5_readPieces_1 rfl ?_
  refine x_goi (x_runV (As := [.int (xJ q)]) hx hb hml hown hT hE hW hl.1 (Or.inl (by decide)) (so_117 h0 g _) rfl cf_X5_readPiece wq688 wq24 wq686 (c_X5_readPieceK2 l D g T h0 s0 hW.2.1 q rq f9 n9 Z c9 C9 st s9 a9 O9 V9 (by omega) (by first | exact hf | exact ⟨(hF 2 (by omega)).trans hf.1, by omega⟩) (hz) (hrd) (hst) p0) ⟨rfl, rfl, ⟨by decide, by decide⟩, ⟨by decide, by decide⟩⟩ rfl rfl (Nat.le_of_ble_eq_true rfl) dX5_readPieces_2) hW (fun x1 s2 H locs rx1 hp3 hW => ?_)
  obtain ⟨fs2, hp3⟩ := hp3
  have hF4 := hF.call fs2 (fun k h => by omega)
  have ghp3 := hp3.2
  have H2 := ghp3
  refine x_if_ne (tgt := 10) hx hb rx1 dX5_readPieces_5 (by decide) (fun c5 => ?_) (fun c5 => ?_)
  · skip
    refine x_iconst hx hb dX5_readPieces_10 ?_
    refine lv_istore_n (lv' := [(2, .int (xJ 0)), (0, .ref (h0 + 117)), (1, .int (xJ q))]) hx hb dX5_readPieces_11 rfl hl (by decide) rfl (fun ls hl => ?_)
    have L12 : ∀ (fu : Nat) (i2_12 : Int) (s_12 : xS) (H : Heap) (locs : List Loc) (ls : Array Slot), (xR i2_12) → (xFr (fun k => k = 1 ∨ k = 118 ∨ k = 119 ∨ k = 120) s0 s_12) → (IC s_12) → (s_12 1 1 = s0 1 1) → (s_12 1 2 = s0 1 2) → (0 ≤ i2_12 ∧ i2_12 + s0 1 3 + 1 ≤ s_12 1 3) → (∃ c2 C2, zCX f9 n9 a9 Z false (s_12 1 3) c2 C2 st ∧ zRD s_12 s9 a9 c2 C2 O9 V9) → (300 - i2_12).toNat < fu → xW D g h0 s H locs s_12 → lv_has ls 4 [(0, .ref (h0 + 117)), (1, .int (xJ q)), (2, .int (xJ i2_12))] → W p l e { frames := 19, cells := 0, slots := 0, locals := 435 } s m args below meth c H locs 0 0 Q (F0 m 12 ls []) := by
      intro fu
      induction fu with
      | zero => intro i2_12 s_12 H locs ls ri2_12 hF_12 q12_0 q12_1 q12_2 v12_0 v12_1 hm; exact absurd hm (Nat.not_lt_zero _)
      | succ fu ih12 =>
        intro i2_12 s_12 H locs ls ri2_12 hF_12 q12_0 q12_1 q12_2 v12_0 v12_1 hm hW hl
        obtain ⟨c2, C2, hz2, hr2⟩ := v12_1
        have w12 := hz2.b
        have y12 := hr2.b
        refine x_iload_n hx hb hl 2 rfl dX5_readPieces_12 rfl ?_
        refine x_sipush hx hb dX5_readPieces_13 (by decide) ?_
        refine x_icmp_ge (tgt := 78) hx hb ri2_12 (by decide) dX5_readPieces_16 (by decide) (fun c6 => False.elim (by omega)) (fun c6 => ?_)
        refine x_aload_n hx hb hl 0 rfl dX5_readPieces_19 rfl ?_
        refine x_get (j := 0) (v := .ref (h0 + 1)) hx hb hown hT hE hW cls_X5 (Or.inl (by decide)) (so_117 h0 g _) (by decide) rfl wq293 dX5_readPieces_20 ?_
        refine x_goi (x_runVN (As := []) hx hb hml hown hT hE hW hl.1 (Or.inl (by decide)) (so_1 h0 g _) rfl cf_X8_sign wq581 wq4 wn641 (c_X8_sign l D g T h0 s_12 hW.2.1 q12_0) ⟨rfl, rfl, ⟨by decide, by decide⟩, ⟨by decide, by decide⟩⟩ rfl rfl (Nat.le_of_ble_eq_true rfl) dX5_readPieces_23) hW (fun x7 s8 H locs rx7 hp9 hW => ?_)
        obtain ⟨es8, hp9⟩ := hp9
        subst es8
        have ghp9 := hp9
        have C23 : x7 = zch f9 n9 (s_12 1 3) := zch_i (by have q8 := congrFun (show s_12 2 = f9 from (hF_12 2 (by omega)).trans hf.1) (s_12 1 3); have q9 := hf.2; omega)
        refine x_bipush hx hb dX5_readPieces_26 (by decide) ?_
        refine x_icmp_ne (tgt := 78) hx hb rx7 (by decide) dX5_readPieces_28 (by decide) (fun c10 => ?_) (fun c10 => ?_)
        · skip
          refine x_iconst hx hb dX5_readPieces_78 ?_
          rw [eQ]
          exact x_zret hx hb hr hlk hW (by omega) ⟨hF_12, ⟨q12_0, q12_1, q12_2, trivial⟩, Or.inl ⟨by omega, by omega, by omega, c2, C2, hz2, hr2⟩⟩ dX5_readPieces_79
        refine x_aload_n hx hb hl 0 rfl dX5_readPieces_31 rfl ?_
        refine x_get (j := 0) (v := .ref (h0 + 1)) hx hb hown hT hE hW cls_X5 (Or.inl (by decide)) (so_117 h0 g _) (by decide) rfl wq293 dX5_readPieces_32 ?_
        refine lv_dup hx hb dX5_readPieces_35 rfl ?_
        refine x_getN (j := 3) (v := .int (xJ (s_12 1 3))) hx hb hown hT hE hW cls_X8 (Or.inl (by decide)) (so_1 h0 g _) (by decide) rfl wn201 dX5_readPieces_36 ?_
        refine x_rd hW (fun x11 ex11 rx11 => ?_)
        refine x_iconst hx hb dX5_readPieces_39 ?_
        refine x_iadd hx hb dX5_readPieces_40 ?_
        refine x_putN (j := 3) hx hb hown hT hE hW cls_X8 (by decide) (fun σ => so_1 h0 g σ) (by decide) (st_X8_3 h0 s_12 1 (x11 + 1)) (ln_X8_3 h0 _ _) wn201 rfl rfl rfl (by omega) dX5_readPieces_41 (fun H locs s12 es12 hW => ?_)
        have q13 : IC s12 := by rw [es12]; exact IC_1 q12_0 (by omega)
        have q14 : s12 1 1 = s0 1 1 := (show s12 1 1 = s_12 1 1 from by rw [es12, xU_j _ _ (by decide)]).trans q12_1
        have q15 : s12 1 2 = s0 1 2 := (show s12 1 2 = s_12 1 2 from by rw [es12, xU_j _ _ (by decide)]).trans q12_2
        have q16 : s12 1 3 = (x11 + 1) := by rw [es12, xU_s]
        have hF17 := hF_12.put es12 (by omega)
        have R41 := hr2.u es12 (by decide)
        refine x_aload_n hx hb hl 0 rfl dX5_readPieces_44 rfl ?_
        refine x_get (j := 1) (v := .ref (h0 + 118)) hx hb hown hT hE hW cls_X5 (Or.inl (by decide)) (so_117 h0 g _) (by decide) rfl wq294 dX5_readPieces_45 ?_
        refine x_iconst hx hb dX5_readPieces_48 ?_
        refine x_iconst hx hb dX5_readPieces_49 ?_
        refine x_goi (x_runVN (As := [.int (xJ 4), .int (xJ 0)]) hx hb hml hown hT hE hW hl.1 (Or.inl (by decide)) (so_118 h0 g _) rfl cf_X4_put wq672 wq21 wn670 (c_X4_putK l D g T h0 s12 hW.2.1 4 (by decide) 0 (by decide) q13) ⟨rfl, rfl, ⟨by decide, by decide⟩, ⟨by decide, by decide⟩⟩ rfl rfl (Nat.le_of_ble_eq_true rfl) dX5_readPieces_50) hW (fun x18 s19 H locs rx18 hp20 hW => ?_)
        obtain ⟨fs19, hp20⟩ := hp20
        have hF21 := hF17.call fs19 (fun k h => by omega)
        have q22 : s19 1 1 = s0 1 1 := (congrFun (fs19 _ (by omega)) _).trans q14
        have q23 : s19 1 2 = s0 1 2 := (congrFun (fs19 _ (by omega)) _).trans q15
        have q24 : s19 1 3 = (x11 + 1) := (congrFun (fs19 _ (by omega)) _).trans q16
        have ghp20 := hp20.2
        have H50 := ghp20 (by have y := R41.b; omega)
        have O50 : zCX f9 n9 a9 Z true (s19 1 3) (c2 + 1) (xud C2 c2 11534336) ((11534336 + c2) :: st) := hz2.and_ ht (by omega) (by omega) rfl rfl rfl
        have R50 : zRD s19 s9 a9 (c2 + 1) (xud C2 c2 11534336) O9 V9 := R41.put H50.2.1 H50.2.2.1 H50.2.2.2 (by decide) (zwm_0 _).2.1 rfl rfl
        have L50 : x18 = c2 + s9 := by have y := R41.b; omega
        refine lv_istore_n (lv' := [(3, .int (xJ x18)), (0, .ref (h0 + 117)), (1, .int (xJ q)), (2, .int (xJ i2_12))]) hx hb dX5_readPieces_53 rfl hl (by decide) rfl (fun ls hl => ?_)
        refine x_aload_n hx hb hl 1 rfl dX5_readPieces_54 rfl ?_
        refine x_iload_n hx hb hl 2 rfl dX5_readPieces_55 rfl ?_
        refine x_goi (x_runV (As := [.int (xJ q)]) hx hb hml hown hT hE hW hl.1 (Or.inl (by decide)) (so_117 h0 g _) rfl cf_X5_readPiece wq688 wq24 wq686 (c_X5_readPieceK2 l D g T h0 s19 hW.2.1 q rq f9 n9 Z (c2 + 1) (xud C2 c2 11534336) ((11534336 + c2) :: st) s9 a9 O9 V9 (by omega) (by first | exact hf | exact ⟨(hF21 2 (by omega)).trans hf.1, by omega⟩) (O50) (R50) (by rw [zqn_z (by omega)]; omega) hp20.1.1) ⟨rfl, rfl, ⟨by decide, by decide⟩, ⟨by decide, by decide⟩⟩ rfl rfl (Nat.le_of_ble_eq_true rfl) dX5_readPieces_56) hW (fun x25 s26 H locs rx25 hp27 hW => ?_)
        obtain ⟨fs26, hp27⟩ := hp27
        have hF28 := hF21.call fs26 (fun k h => by omega)
        have ghp27 := hp27.2
        have H56 := ghp27
        refine x_if_ne (tgt := 64) hx hb rx25 dX5_readPieces_59 (by decide) (fun c29 => ?_) (fun c29 => ?_)
        · skip
          refine x_aload_n hx hb hl 1 rfl dX5_readPieces_64 rfl ?_
          refine x_get (j := 1) (v := .ref (h0 + 118)) hx hb hown hT hE hW cls_X5 (Or.inl (by decide)) (so_117 h0 g _) (by decide) rfl wq294 dX5_readPieces_65 ?_
          obtain ⟨c3, C3, hz3, hr3⟩ := (H56.resolve_right (fun q => by omega)).2.2
          have w3 := hz3.b
          have y3 := hr3.b
          have s3 := hz3.sh.1
          refine x_iload_n hx hb hl 0 rfl dX5_readPieces_68 rfl ?_
          refine x_gov (x_runVN (As := [.int (xJ x18)]) hx hb hml hown hT hE hW hl.1 (Or.inl (by decide)) (so_118 h0 g _) rfl cf_X4_landSkip wq692 wq25 wn690 (c_X4_landSkipK l D g T h0 s26 hW.2.1 x18 rx18 (by omega) hp27.1.1) ⟨rfl, rfl, ⟨by decide, by decide⟩, ⟨by decide, by decide⟩⟩ rfl rfl (Nat.le_of_ble_eq_true rfl) dX5_readPieces_69) hW (fun s31 H locs hp32 hW => ?_)
          obtain ⟨fs31, hp32⟩ := hp32
          have hF33 := hF28.call fs31 (fun k h => by omega)
          have q34 : s31 1 1 = s0 1 1 := (congrFun (fs31 _ (by omega)) _).trans (hp27.1.2.1.trans q22)
          have q35 : s31 1 2 = s0 1 2 := (congrFun (fs31 _ (by omega)) _).trans (hp27.1.2.2.1.trans q23)
          have ghp32 := hp32.2
          have H69 := ghp32
          have Y69 : s31 1 3 = s26 1 3 := congrFun (fs31 1 (by omega)) 3
          have X69 : ∃ c2 C2, zCX f9 n9 a9 Z false (s31 1 3) c2 C2 st ∧ zRD s31 s9 a9 c2 C2 O9 V9 := ⟨c3, zland C3 (11534336 + c2) c3, by rw [show s31 1 3 = s26 1 3 from congrFun (fs31 1 (by omega)) 3]; exact hz3.landA (by omega) rfl, hr3.land (congrFun (fs31 118 (by omega)) 2) (fs31 119 (by omega)) H69 (by omega) (by omega) (by omega) (by omega) (by omega)⟩
          refine x_iinc (lv' := [(2, .int (xJ (i2_12 + 1))), (3, .int (xJ x18)), (0, .ref (h0 + 117)), (1, .int (xJ q))]) hx hb hl 3 rfl dX5_readPieces_72 (by decide) rfl (fun ls hl => ?_)
          refine lv_goto (tgt := 12) hx hb dX5_readPieces_75 (by decide) ?_
          exact ih12 (i2_12 + 1) s31 H locs ls (by omega) hF33 hp32.1.1 q34 q35 (by omega) (X69) (by omega) hW (lv_sub hl [2, 3, 0] rfl)
        refine x_iconst hx hb dX5_readPieces_62 ?_
        rw [eQ]
        exact x_zret hx hb hr hlk hW (by omega) ⟨hF28, ⟨hp27.1.1, (hp27.1.2.1.trans q22), (hp27.1.2.2.1.trans q23), trivial⟩, H56.elim (fun q => absurd q.1 (by omega)) (fun q => Or.inr ⟨by omega, q.2⟩)⟩ dX5_readPieces_63
    exact L12 ((300 - 0 : Int).toNat + 1) 0 s2 H locs ls (by decide) hF4 hp3.1.1 (hp3.1.2.1.trans k1_1) (hp3.1.2.2.1.trans k1_2) (by omega) ((H2.resolve_right (fun q => by omega)).2.2) (Nat.lt_succ_self _) hW (lv_sub hl [1, 2, 0] rfl)
  refine x_iconst hx hb dX5_readPieces_8 ?_
  rw [eQ]
  exact x_zret hx hb hr hlk hW (by omega) ⟨hF4, ⟨hp3.1.1, (hp3.1.2.1.trans k1_1), (hp3.1.2.2.1.trans k1_2), trivial⟩, H2.elim (fun q => absurd q.1 (by omega)) (fun q => Or.inr ⟨by omega, q.2⟩)⟩ dX5_readPieces_9
set_option maxHeartbeats 4000000 in
set_option maxRecDepth 100000 in
theorem c_X5_readPartsK2 (l : Launch) (D : va_G) (g : xG) (T : Nat × Nat × Nat) (h0 : Nat) (s0 : xS) (hσ : xRR s0) (q : Int) (rq : xR q) (f9 : Int → Int) (n9 : Int) (Z : Int × Int × Int × (Int → Int)) (c9 : Int) (C9 : Int → Int) (st : List Int) (s9 : Int) (a9 : Int) (O9 : Int → Int) (V9 : Int → Int) (hq : q = 2) (hf : s0 2 = f9 ∧ s0 1 2 = n9) (hz : zCX f9 n9 a9 Z true (s0 1 3) c9 C9 st) (hrd : zRD s0 s9 a9 c9 C9 O9 V9) (hst : zqn st = 2) (ht : 13631488 ≤ ztp st) (p0 : IC s0) : Met l yX5_readParts (xws yX5_readParts cX5_readParts 4 (some .boolean)) { frames := 20, cells := 0, slots := 0, locals := 458 } (xP [.ref (h0 + 117), .int (xJ q)] D g T h0 s0) (xQi D g h0 (fun r τ => xFr (fun k => k = 1 ∨ k = 118 ∨ k = 119 ∨ k = 120) s0 τ ∧ (((IC τ) ∧ (τ 1 1 = s0 1 1) ∧ (τ 1 2 = s0 1 2) ∧ True) ∧ ((r = 1 ∧ s0 1 3 + 1 ≤ τ 1 3 ∧ zch f9 n9 (τ 1 3) ≠ 38 ∧ zch f9 n9 (τ 1 3) ≠ 124 ∧ ∃ c2 C2, zCX f9 n9 a9 Z false (τ 1 3) c2 C2 st ∧ zRD τ s9 a9 c2 C2 O9 V9) ∨ (r = 0 ∧ Z.1 ≠ 0 ∧ τ 1 4 = Z.1))))) 0 0 (xA h0) := by
  refine x_met hσ (by decide) (Nat.le_of_ble_eq_true rfl) ?_
  intro p e s m args below meth c hx hb hr hml hown hT hlk hnm hE hW ls hl
  have hl : lv_has ls 4 [(0, .ref (h0 + 117)), (1, .int (xJ q))] := hl
  obtain ⟨Q, eQ⟩ : ∃ Q, Q = MQ below (xQi D g h0 (fun r τ => xFr (fun k => k = 1 ∨ k = 118 ∨ k = 119 ∨ k = 120) s0 τ ∧ (((IC τ) ∧ (τ 1 1 = s0 1 1) ∧ (τ 1 2 = s0 1 2) ∧ True) ∧ ((r = 1 ∧ s0 1 3 + 1 ≤ τ 1 3 ∧ zch f9 n9 (τ 1 3) ≠ 38 ∧ zch f9 n9 (τ 1 3) ≠ 124 ∧ ∃ c2 C2, zCX f9 n9 a9 Z false (τ 1 3) c2 C2 st ∧ zRD τ s9 a9 c2 C2 O9 V9) ∨ (r = 0 ∧ Z.1 ≠ 0 ∧ τ 1 4 = Z.1))))) args s 0 0 (xA h0) := ⟨_, rfl⟩
  rw [← eQ]
  generalize hHe : ([] : List Loc) = locs at hW ⊢
  obtain ⟨H, eH⟩ : ∃ H, H = s.heap := ⟨_, rfl⟩
  rw [← eH] at hW ⊢
  have hF : xFr (fun k => k = 1 ∨ k = 118 ∨ k = 119 ∨ k = 120) s0 s0 := xFr.rf
  have k1_1 : s0 1 1 = s0 1 1 := rfl
  have k1_2 : s0 1 2 = s0 1 2 := rfl
  have k1_3 : s0 1 3 = s0 1 3 := rfl
  have hb9 := hz.b
  have hrb := hrd.b
  have hf2 := hf.2
  refine x_aload_n hx hb hl 0 rfl dX5_readParts_0 rfl ?_
  refine x_iload_n hx hb hl 1 rfl dX5_readParts_1 rfl ?_
  refine x_goi (x_runV (As := [.int (xJ q)]) hx hb hml hown hT hE hW hl.1 (Or.inl (by decide)) (so_117 h0 g _) rfl cf_X5_readPieces wq684 wq23 wq682 (c_X5_readPiecesK2 l D g T h0 s0 hW.2.1 q rq f9 n9 Z c9 C9 st s9 a9 O9 V9 (by omega) (by first | exact hf | exact ⟨(hF 2 (by omega)).trans hf.1, by omega⟩) (hz) (hrd) (hst) (by omega) p0) ⟨rfl, rfl, ⟨by decide, by decide⟩, ⟨by decide, by decide⟩⟩ rfl rfl (Nat.le_of_ble_eq_true rfl) dX5_readParts_2) hW (fun x1 s2 H locs rx1 hp3 hW => ?_)
  obtain ⟨fs2, hp3⟩ := hp3
  have hF4 := hF.call fs2 (fun k h => by omega)
  have ghp3 := hp3.2
  have H2 := ghp3
  refine x_if_ne (tgt := 10) hx hb rx1 dX5_readParts_5 (by decide) (fun c5 => ?_) (fun c5 => ?_)
  · skip
    refine x_iconst hx hb dX5_readParts_10 ?_
    refine lv_istore_n (lv' := [(2, .int (xJ 0)), (0, .ref (h0 + 117)), (1, .int (xJ q))]) hx hb dX5_readParts_11 rfl hl (by decide) rfl (fun ls hl => ?_)
    have L12 : ∀ (fu : Nat) (i2_12 : Int) (s_12 : xS) (H : Heap) (locs : List Loc) (ls : Array Slot), (xR i2_12) → (xFr (fun k => k = 1 ∨ k = 118 ∨ k = 119 ∨ k = 120) s0 s_12) → (IC s_12) → (s_12 1 1 = s0 1 1) → (s_12 1 2 = s0 1 2) → (0 ≤ i2_12 ∧ i2_12 + s0 1 3 + 1 ≤ s_12 1 3) → (∃ c2 C2, zCX f9 n9 a9 Z false (s_12 1 3) c2 C2 st ∧ zRD s_12 s9 a9 c2 C2 O9 V9) → (zch f9 n9 (s_12 1 3) ≠ 38) → (300 - i2_12).toNat < fu → xW D g h0 s H locs s_12 → lv_has ls 4 [(0, .ref (h0 + 117)), (1, .int (xJ q)), (2, .int (xJ i2_12))] → W p l e { frames := 20, cells := 0, slots := 0, locals := 458 } s m args below meth c H locs 0 0 Q (F0 m 12 ls []) := by
      intro fu
      induction fu with
      | zero => intro i2_12 s_12 H locs ls ri2_12 hF_12 q12_0 q12_1 q12_2 v12_0 v12_1 v12_2 hm; exact absurd hm (Nat.not_lt_zero _)
      | succ fu ih12 =>
        intro i2_12 s_12 H locs ls ri2_12 hF_12 q12_0 q12_1 q12_2 v12_0 v12_1 v12_2 hm hW hl
        obtain ⟨c2, C2, hz2, hr2⟩ := v12_1
        have w12 := hz2.b
        have y12 := hr2.b
        refine x_iload_n hx hb hl 2 rfl dX5_readParts_12 rfl ?_
        refine x_sipush hx hb dX5_readParts_13 (by decide) ?_
        refine x_icmp_ge (tgt := 78) hx hb ri2_12 (by decide) dX5_readParts_16 (by decide) (fun c6 => False.elim (by omega)) (fun c6 => ?_)
        refine x_aload_n hx hb hl 0 rfl dX5_readParts_19 rfl ?_
        refine x_get (j := 0) (v := .ref (h0 + 1)) hx hb hown hT hE hW cls_X5 (Or.inl (by decide)) (so_117 h0 g _) (by decide) rfl wq293 dX5_readParts_20 ?_
        refine x_goi (x_runVN (As := []) hx hb hml hown hT hE hW hl.1 (Or.inl (by decide)) (so_1 h0 g _) rfl cf_X8_sign wq581 wq4 wn641 (c_X8_sign l D g T h0 s_12 hW.2.1 q12_0) ⟨rfl, rfl, ⟨by decide, by decide⟩, ⟨by decide, by decide⟩⟩ rfl rfl (Nat.le_of_ble_eq_true rfl) dX5_readParts_23) hW (fun x7 s8 H locs rx7 hp9 hW => ?_)
        obtain ⟨es8, hp9⟩ := hp9
        subst es8
        have ghp9 := hp9
        have C23 : x7 = zch f9 n9 (s_12 1 3) := zch_i (by have q8 := congrFun (show s_12 2 = f9 from (hF_12 2 (by omega)).trans hf.1) (s_12 1 3); have q9 := hf.2; omega)
        refine x_bipush hx hb dX5_readParts_26 (by decide) ?_
        refine x_icmp_ne (tgt := 78) hx hb rx7 (by decide) dX5_readParts_28 (by decide) (fun c10 => ?_) (fun c10 => ?_)
        · skip
          refine x_iconst hx hb dX5_readParts_78 ?_
          rw [eQ]
          exact x_zret hx hb hr hlk hW (by omega) ⟨hF_12, ⟨q12_0, q12_1, q12_2, trivial⟩, Or.inl ⟨by omega, by omega, by omega, by omega, c2, C2, hz2, hr2⟩⟩ dX5_readParts_79
        refine x_aload_n hx hb hl 0 rfl dX5_readParts_31 rfl ?_
        refine x_get (j := 0) (v := .ref (h0 + 1)) hx hb hown hT hE hW cls_X5 (Or.inl (by decide)) (so_117 h0 g _) (by decide) rfl wq293 dX5_readParts_32 ?_
        refine lv_dup hx hb dX5_readParts_35 rfl ?_
        refine x_getN (j := 3) (v := .int (xJ (s_12 1 3))) hx hb hown hT hE hW cls_X8 (Or.inl (by decide)) (so_1 h0 g _) (by decide) rfl wn201 dX5_readParts_36 ?_
        refine x_rd hW (fun x11 ex11 rx11 => ?_)
        refine x_iconst hx hb dX5_readParts_39 ?_
        refine x_iadd hx hb dX5_readParts_40 ?_
        refine x_putN (j := 3) hx hb hown hT hE hW cls_X8 (by decide) (fun σ => so_1 h0 g σ) (by decide) (st_X8_3 h0 s_12 1 (x11 + 1)) (ln_X8_3 h0 _ _) wn201 rfl rfl rfl (by omega) dX5_readParts_41 (fun H locs s12 es12 hW => ?_)
        have q13 : IC s12 := by rw [es12]; exact IC_1 q12_0 (by omega)
        have q14 : s12 1 1 = s0 1 1 := (show s12 1 1 = s_12 1 1 from by rw [es12, xU_j _ _ (by decide)]).trans q12_1
        have q15 : s12 1 2 = s0 1 2 := (show s12 1 2 = s_12 1 2 from by rw [es12, xU_j _ _ (by decide)]).trans q12_2
        have q16 : s12 1 3 = (x11 + 1) := by rw [es12, xU_s]
        have hF17 := hF_12.put es12 (by omega)
        have R41 := hr2.u es12 (by decide)
        refine x_aload_n hx hb hl 0 rfl dX5_readParts_44 rfl ?_
        refine x_get (j := 1) (v := .ref (h0 + 118)) hx hb hown hT hE hW cls_X5 (Or.inl (by decide)) (so_117 h0 g _) (by decide) rfl wq294 dX5_readParts_45 ?_
        refine x_iconst hx hb dX5_readParts_48 ?_
        refine x_iconst hx hb dX5_readParts_49 ?_
        refine x_goi (x_runVN (As := [.int (xJ 5), .int (xJ 0)]) hx hb hml hown hT hE hW hl.1 (Or.inl (by decide)) (so_118 h0 g _) rfl cf_X4_put wq672 wq21 wn670 (c_X4_putK l D g T h0 s12 hW.2.1 5 (by decide) 0 (by decide) q13) ⟨rfl, rfl, ⟨by decide, by decide⟩, ⟨by decide, by decide⟩⟩ rfl rfl (Nat.le_of_ble_eq_true rfl) dX5_readParts_50) hW (fun x18 s19 H locs rx18 hp20 hW => ?_)
        obtain ⟨fs19, hp20⟩ := hp20
        have hF21 := hF17.call fs19 (fun k h => by omega)
        have q22 : s19 1 1 = s0 1 1 := (congrFun (fs19 _ (by omega)) _).trans q14
        have q23 : s19 1 2 = s0 1 2 := (congrFun (fs19 _ (by omega)) _).trans q15
        have q24 : s19 1 3 = (x11 + 1) := (congrFun (fs19 _ (by omega)) _).trans q16
        have ghp20 := hp20.2
        have H50 := ghp20 (by have y := R41.b; omega)
        have O50 : zCX f9 n9 a9 Z true (s19 1 3) (c2 + 1) (xud C2 c2 12582912) ((12582912 + c2) :: st) := hz2.or_ ht (by omega) (by omega) rfl rfl rfl
        have R50 : zRD s19 s9 a9 (c2 + 1) (xud C2 c2 12582912) O9 V9 := R41.put H50.2.1 H50.2.2.1 H50.2.2.2 (by decide) (zwm_0 _).2.2 rfl rfl
        have L50 : x18 = c2 + s9 := by have y := R41.b; omega
        refine lv_istore_n (lv' := [(3, .int (xJ x18)), (0, .ref (h0 + 117)), (1, .int (xJ q)), (2, .int (xJ i2_12))]) hx hb dX5_readParts_53 rfl hl (by decide) rfl (fun ls hl => ?_)
        refine x_aload_n hx hb hl 1 rfl dX5_readParts_54 rfl ?_
        refine x_iload_n hx hb hl 2 rfl dX5_readParts_55 rfl ?_
        refine x_goi (x_runV (As := [.int (xJ q)]) hx hb hml hown hT hE hW hl.1 (Or.inl (by decide)) (so_117 h0 g _) rfl cf_X5_readPieces wq684 wq23 wq682 (c_X5_readPiecesK2 l D g T h0 s19 hW.2.1 q rq f9 n9 Z (c2 + 1) (xud C2 c2 12582912) ((12582912 + c2) :: st) s9 a9 O9 V9 (by omega) (by first | exact hf | exact ⟨(hF21 2 (by omega)).trans hf.1, by omega⟩) (O50) (R50) (by rw [zqn_z (by omega)]; omega) (by show (12582912 : Int) ≤ 12582912 + c2; omega) hp20.1.1) ⟨rfl, rfl, ⟨by decide, by decide⟩, ⟨by decide, by decide⟩⟩ rfl rfl (Nat.le_of_ble_eq_true rfl) dX5_readParts_56) hW (fun x25 s26 H locs rx25 hp27 hW => ?_)
        obtain ⟨fs26, hp27⟩ := hp27
        have hF28 := hF21.call fs26 (fun k h => by omega)
        have ghp27 := hp27.2
        have H56 := ghp27
        refine x_if_ne (tgt := 64) hx hb rx25 dX5_readParts_59 (by decide) (fun c29 => ?_) (fun c29 => ?_)
        · skip
          refine x_aload_n hx hb hl 1 rfl dX5_readParts_64 rfl ?_
          refine x_get (j := 1) (v := .ref (h0 + 118)) hx hb hown hT hE hW cls_X5 (Or.inl (by decide)) (so_117 h0 g _) (by decide) rfl wq294 dX5_readParts_65 ?_
          obtain ⟨c3, C3, hz3, hr3⟩ := (H56.resolve_right (fun q => by omega)).2.2.2
          have w3 := hz3.b
          have y3 := hr3.b
          have s3 := hz3.sh.1
          refine x_iload_n hx hb hl 0 rfl dX5_readParts_68 rfl ?_
          refine x_gov (x_runVN (As := [.int (xJ x18)]) hx hb hml hown hT hE hW hl.1 (Or.inl (by decide)) (so_118 h0 g _) rfl cf_X4_landSkip wq692 wq25 wn690 (c_X4_landSkipK l D g T h0 s26 hW.2.1 x18 rx18 (by omega) hp27.1.1) ⟨rfl, rfl, ⟨by decide, by decide⟩, ⟨by decide, by decide⟩⟩ rfl rfl (Nat.le_of_ble_eq_true rfl) dX5_readParts_69) hW (fun s31 H locs hp32 hW => ?_)
          obtain ⟨fs31, hp32⟩ := hp32
          have hF33 := hF28.call fs31 (fun k h => by omega)
          have q34 : s31 1 1 = s0 1 1 := (congrFun (fs31 _ (by omega)) _).trans (hp27.1.2.1.trans q22)
          have q35 : s31 1 2 = s0 1 2 := (congrFun (fs31 _ (by omega)) _).trans (hp27.1.2.2.1.trans q23)
          have ghp32 := hp32.2
          have H69 := ghp32
          have Y69 : s31 1 3 = s26 1 3 := congrFun (fs31 1 (by omega)) 3
          have X69 : ∃ c2 C2, zCX f9 n9 a9 Z false (s31 1 3) c2 C2 st ∧ zRD s31 s9 a9 c2 C2 O9 V9 := ⟨c3, zland C3 (12582912 + c2) c3, by rw [show s31 1 3 = s26 1 3 from congrFun (fs31 1 (by omega)) 3]; exact hz3.landP (by omega) (by omega) rfl, hr3.land (congrFun (fs31 118 (by omega)) 2) (fs31 119 (by omega)) H69 (by omega) (by omega) (by omega) (by omega) (by omega)⟩
          refine x_iinc (lv' := [(2, .int (xJ (i2_12 + 1))), (3, .int (xJ x18)), (0, .ref (h0 + 117)), (1, .int (xJ q))]) hx hb hl 3 rfl dX5_readParts_72 (by decide) rfl (fun ls hl => ?_)
          refine lv_goto (tgt := 12) hx hb dX5_readParts_75 (by decide) ?_
          exact ih12 (i2_12 + 1) s31 H locs ls (by omega) hF33 hp32.1.1 q34 q35 (by omega) (X69) (by rw [Y69]; exact (H56.resolve_right (fun q => by omega)).2.2.1) (by omega) hW (lv_sub hl [2, 3, 0] rfl)
        refine x_iconst hx hb dX5_readParts_62 ?_
        rw [eQ]
        exact x_zret hx hb hr hlk hW (by omega) ⟨hF28, ⟨hp27.1.1, (hp27.1.2.1.trans q22), (hp27.1.2.2.1.trans q23), trivial⟩, H56.elim (fun q => absurd q.1 (by omega)) (fun q => Or.inr ⟨by omega, q.2⟩)⟩ dX5_readParts_63
    exact L12 ((300 - 0 : Int).toNat + 1) 0 s2 H locs ls (by decide) hF4 hp3.1.1 (hp3.1.2.1.trans k1_1) (hp3.1.2.2.1.trans k1_2) (by omega) ((H2.resolve_right (fun q => by omega)).2.2.2) ((H2.resolve_right (fun q => by omega)).2.2.1) (Nat.lt_succ_self _) hW (lv_sub hl [1, 2, 0] rfl)
  refine x_iconst hx hb dX5_readParts_8 ?_
  rw [eQ]
  exact x_zret hx hb hr hlk hW (by omega) ⟨hF4, ⟨hp3.1.1, (hp3.1.2.1.trans k1_1), (hp3.1.2.2.1.trans k1_2), trivial⟩, H2.elim (fun q => absurd q.1 (by omega)) (fun q => Or.inr ⟨by omega, q.2⟩)⟩ dX5_readParts_9
set_option maxHeartbeats 4000000 in
set_option maxRecDepth 100000 in
theorem c_X5_readPieceK1 (l : Launch) (D : va_G) (g : xG) (T : Nat × Nat × Nat) (h0 : Nat) (s0 : xS) (hσ : xRR s0) (q : Int) (rq : xR q) (f9 : Int → Int) (n9 : Int) (Z : Int × Int × Int × (Int → Int)) (c9 : Int) (C9 : Int → Int) (st : List Int) (s9 : Int) (a9 : Int) (O9 : Int → Int) (V9 : Int → Int) (hq : q = 1) (hf : s0 2 = f9 ∧ s0 1 2 = n9) (hz : zCX f9 n9 a9 Z true (s0 1 3) c9 C9 st) (hrd : zRD s0 s9 a9 c9 C9 O9 V9) (hst : zqn st = 1) (p0 : IC s0) : Met l yX5_readPiece (xws yX5_readPiece cX5_readPiece 5 (some .boolean)) { frames := 21, cells := 0, slots := 0, locals := 481 } (xP [.ref (h0 + 117), .int (xJ q)] D g T h0 s0) (xQi D g h0 (fun r τ => xFr (fun k => k = 1 ∨ k = 118 ∨ k = 119 ∨ k = 120) s0 τ ∧ (((IC τ) ∧ (τ 1 1 = s0 1 1) ∧ (τ 1 2 = s0 1 2) ∧ True) ∧ ((r = 1 ∧ s0 1 3 + 1 ≤ τ 1 3 ∧ ∃ c2 C2, zCX f9 n9 a9 Z false (τ 1 3) c2 C2 st ∧ zRD τ s9 a9 c2 C2 O9 V9) ∨ (r = 0 ∧ Z.1 ≠ 0 ∧ τ 1 4 = Z.1))))) 0 0 (xA h0) := by
  refine x_met hσ (by decide) (Nat.le_of_ble_eq_true rfl) ?_
  intro p e s m args below meth c hx hb hr hml hown hT hlk hnm hE hW ls hl
  have hl : lv_has ls 5 [(0, .ref (h0 + 117)), (1, .int (xJ q))] := hl
  obtain ⟨Q, eQ⟩ : ∃ Q, Q = MQ below (xQi D g h0 (fun r τ => xFr (fun k => k = 1 ∨ k = 118 ∨ k = 119 ∨ k = 120) s0 τ ∧ (((IC τ) ∧ (τ 1 1 = s0 1 1) ∧ (τ 1 2 = s0 1 2) ∧ True) ∧ ((r = 1 ∧ s0 1 3 + 1 ≤ τ 1 3 ∧ ∃ c2 C2, zCX f9 n9 a9 Z false (τ 1 3) c2 C2 st ∧ zRD τ s9 a9 c2 C2 O9 V9) ∨ (r = 0 ∧ Z.1 ≠ 0 ∧ τ 1 4 = Z.1))))) args s 0 0 (xA h0) := ⟨_, rfl⟩
  rw [← eQ]
  generalize hHe : ([] : List Loc) = locs at hW ⊢
  obtain ⟨H, eH⟩ : ∃ H, H = s.heap := ⟨_, rfl⟩
  rw [← eH] at hW ⊢
  have hF : xFr (fun k => k = 1 ∨ k = 118 ∨ k = 119 ∨ k = 120) s0 s0 := xFr.rf
  have k1_1 : s0 1 1 = s0 1 1 := rfl
  have k1_2 : s0 1 2 = s0 1 2 := rfl
  have k1_3 : s0 1 3 = s0 1 3 := rfl
  have hb9 := hz.b
  have hrb := hrd.b
  have hf2 := hf.2
  refine x_aload_n hx hb hl 0 rfl dX5_readPiece_0 rfl ?_
  refine x_get (j := 0) (v := .ref (h0 + 1)) hx hb hown hT hE hW cls_X5 (Or.inl (by decide)) (so_117 h0 g _) (by decide) rfl wq293 dX5_readPiece_1 ?_
  refine x_goi (x_runVN (As := []) hx hb hml hown hT hE hW hl.1 (Or.inl (by decide)) (so_1 h0 g _) rfl cf_X8_sign wq581 wq4 wn641 (c_X8_sign l D g T h0 s0 hW.2.1 p0) ⟨rfl, rfl, ⟨by decide, by decide⟩, ⟨by decide, by decide⟩⟩ rfl rfl (Nat.le_of_ble_eq_true rfl) dX5_readPiece_4) hW (fun x1 s2 H locs rx1 hp3 hW => ?_)
  obtain ⟨es2, hp3⟩ := hp3
  subst es2
  have ghp3 := hp3
  have C4 : x1 = zch f9 n9 (s0 1 3) := zch_i (by have q8 := congrFun (show s0 2 = f9 from hf.1) (s0 1 3); have q9 := hf.2; omega)
  refine lv_istore_n (lv' := [(2, .int (xJ x1)), (0, .ref (h0 + 117)), (1, .int (xJ q))]) hx hb dX5_readPiece_7 rfl hl (by decide) rfl (fun ls hl => ?_)
  refine x_iload_n hx hb hl 0 rfl dX5_readPiece_8 rfl ?_
  refine x_bipush hx hb dX5_readPiece_9 (by decide) ?_
  have J20 : ∀ (ls : Array Slot), (zch f9 n9 (s0 1 3) = x1 ∧ (x1 = 33 ∨ x1 = 40)) → lv_has ls 5 [(0, .ref (h0 + 117)), (1, .int (xJ q)), (2, .int (xJ x1))] → W p l e { frames := 21, cells := 0, slots := 0, locals := 481 } s m args below meth c H locs 0 0 Q (F0 m 20 ls []) := by
    intro ls v20_0  hl
    refine x_iload_n hx hb hl 1 rfl dX5_readPiece_20 rfl ?_
    refine x_bipush hx hb dX5_readPiece_21 (by decide) ?_
    refine x_icmp_lt (tgt := 42) hx hb rq (by decide) dX5_readPiece_23 (by decide) (fun c4 => ?_) (fun c4 => False.elim (by omega))
    refine x_aload_n hx hb hl 0 rfl dX5_readPiece_42 rfl ?_
    refine x_get (j := 0) (v := .ref (h0 + 1)) hx hb hown hT hE hW cls_X5 (Or.inl (by decide)) (so_117 h0 g _) (by decide) rfl wq293 dX5_readPiece_43 ?_
    refine lv_dup hx hb dX5_readPiece_46 rfl ?_
    refine x_getN (j := 3) (v := .int (xJ (s0 1 3))) hx hb hown hT hE hW cls_X8 (Or.inl (by decide)) (so_1 h0 g _) (by decide) rfl wn201 dX5_readPiece_47 ?_
    refine x_rd hW (fun x5 ex5 rx5 => ?_)
    have fx5 : x5 = s0 1 3 := ex5.trans k1_3
    refine x_iconst hx hb dX5_readPiece_50 ?_
    refine x_iadd hx hb dX5_readPiece_51 ?_
    refine x_putN (j := 3) hx hb hown hT hE hW cls_X8 (by decide) (fun σ => so_1 h0 g σ) (by decide) (st_X8_3 h0 s0 1 (x5 + 1)) (ln_X8_3 h0 _ _) wn201 rfl rfl rfl (by omega) dX5_readPiece_52 (fun H locs s6 es6 hW => ?_)
    have q7 : IC s6 := by rw [es6]; exact IC_1 p0 (by omega)
    have q8 : s6 1 1 = s0 1 1 := (show s6 1 1 = s0 1 1 from by rw [es6, xU_j _ _ (by decide)]).trans k1_1
    have q9 : s6 1 2 = s0 1 2 := (show s6 1 2 = s0 1 2 from by rw [es6, xU_j _ _ (by decide)]).trans k1_2
    have q10 : s6 1 3 = (x5 + 1) := by rw [es6, xU_s]
    have hF11 := hF.put es6 (by omega)
    refine x_iload_n hx hb hl 2 rfl dX5_readPiece_55 rfl ?_
    refine x_bipush hx hb dX5_readPiece_56 (by decide) ?_
    refine x_icmp_ne (tgt := 89) hx hb rx1 (by decide) dX5_readPiece_58 (by decide) (fun c12 => ?_) (fun c12 => ?_)
    · skip
      refine x_aload_n hx hb hl 0 rfl dX5_readPiece_89 rfl ?_
      refine x_iload_n hx hb hl 1 rfl dX5_readPiece_90 rfl ?_
      refine x_iconst hx hb dX5_readPiece_91 ?_
      refine x_iadd hx hb dX5_readPiece_92 ?_
      refine x_goi (x_runV (As := [.int (xJ (q + 1))]) hx hb hml hown hT hE hW hl.1 (Or.inl (by decide)) (so_117 h0 g _) rfl cf_X5_readPiece wq688 wq24 wq686 (c_X5_readPieceK2 l D g T h0 s6 hW.2.1 (q + 1) (by omega) f9 n9 Z c9 C9 (10485760 :: st) s9 a9 O9 V9 (by omega) (by first | exact hf | exact ⟨(hF11 2 (by omega)).trans hf.1, by omega⟩) (hz.open_ (Or.inl ⟨by omega, rfl⟩) (by omega) (by omega)) (hrd.u es6 (by decide)) (by rw [zqn_y (by decide)]; omega) q7) ⟨rfl, rfl, ⟨by decide, by decide⟩, ⟨by decide, by decide⟩⟩ rfl rfl (Nat.le_of_ble_eq_true rfl) dX5_readPiece_93) hW (fun x13 s14 H locs rx13 hp15 hW => ?_)
      obtain ⟨fs14, hp15⟩ := hp15
      have hF16 := hF11.call fs14 (fun k h => by omega)
      have ghp15 := hp15.2
      have H93 := ghp15
      refine lv_istore_n (lv' := [(3, .int (xJ x13)), (0, .ref (h0 + 117)), (1, .int (xJ q)), (2, .int (xJ x1))]) hx hb dX5_readPiece_96 rfl hl (by decide) rfl (fun ls hl => ?_)
      refine x_aload_n hx hb hl 1 rfl dX5_readPiece_97 rfl ?_
      refine x_get (j := 1) (v := .ref (h0 + 118)) hx hb hown hT hE hW cls_X5 (Or.inl (by decide)) (so_117 h0 g _) (by decide) rfl wq294 dX5_readPiece_98 ?_
      refine x_iconst hx hb dX5_readPiece_101 ?_
      refine x_iconst hx hb dX5_readPiece_102 ?_
      refine x_goi (x_runVN (As := [.int (xJ 3), .int (xJ 0)]) hx hb hml hown hT hE hW hl.1 (Or.inl (by decide)) (so_118 h0 g _) rfl cf_X4_put wq672 wq21 wn670 (c_X4_putK l D g T h0 s14 hW.2.1 3 (by decide) 0 (by decide) hp15.1.1) ⟨rfl, rfl, ⟨by decide, by decide⟩, ⟨by decide, by decide⟩⟩ rfl rfl (Nat.le_of_ble_eq_true rfl) dX5_readPiece_103) hW (fun x17 s18 H locs rx17 hp19 hW => ?_)
      obtain ⟨fs18, hp19⟩ := hp19
      have hF20 := hF16.call fs18 (fun k h => by omega)
      have q21 : s18 1 1 = s0 1 1 := (congrFun (fs18 _ (by omega)) _).trans (hp15.1.2.1.trans q8)
      have q22 : s18 1 2 = s0 1 2 := (congrFun (fs18 _ (by omega)) _).trans (hp15.1.2.2.1.trans q9)
      have ghp19 := hp19.2
      have H103 := ghp19
      refine lv_pop hx hb dX5_readPiece_106 rfl ?_
      refine x_iload_n hx hb hl 0 rfl dX5_readPiece_107 rfl ?_
      rw [eQ]
      exact x_zret hx hb hr hlk hW (by omega) ⟨hF20, ⟨hp19.1.1, q21, q22, trivial⟩, (by
    have u3 : s18 1 3 = s14 1 3 := congrFun (fs18 1 (by omega)) 3
    have u4 : s18 1 4 = s14 1 4 := congrFun (fs18 1 (by omega)) 4
    rcases H93 with q | q
    · obtain ⟨c3, C3, hz3, hr3⟩ := q.2.2
      have y := hr3.b
      have y2 := hz3.b
      have P := H103 (by omega)
      exact Or.inl ⟨q.1, by omega, c3 + 1, xud C3 c3 10485760, by rw [u3]; exact hz3.not (by decide) rfl rfl, hr3.put P.2.1 P.2.2.1 P.2.2.2 (by decide) (zwm_0 _).1 rfl rfl⟩
    · exact Or.inr ⟨q.1, q.2.1, u4.trans q.2.2⟩)⟩ dX5_readPiece_108
    refine x_aload_n hx hb hl 0 rfl dX5_readPiece_61 rfl ?_
    refine x_iload_n hx hb hl 1 rfl dX5_readPiece_62 rfl ?_
    refine x_iconst hx hb dX5_readPiece_63 ?_
    refine x_iadd hx hb dX5_readPiece_64 ?_
    refine x_goi (x_runV (As := [.int (xJ (q + 1))]) hx hb hml hown hT hE hW hl.1 (Or.inl (by decide)) (so_117 h0 g _) rfl cf_X5_readParts wq680 wq22 wq678 (c_X5_readPartsK2 l D g T h0 s6 hW.2.1 (q + 1) (by omega) f9 n9 Z c9 C9 (13631488 :: st) s9 a9 O9 V9 (by omega) (by first | exact hf | exact ⟨(hF11 2 (by omega)).trans hf.1, by omega⟩) (hz.open_ (Or.inr ⟨by omega, rfl⟩) (by omega) (by omega)) (hrd.u es6 (by decide)) (by rw [zqn_y (by decide)]; omega) ((by decide : (13631488 : Int) ≤ 13631488)) q7) ⟨rfl, rfl, ⟨by decide, by decide⟩, ⟨by decide, by decide⟩⟩ rfl rfl (Nat.le_of_ble_eq_true rfl) dX5_readPiece_65) hW (fun x23 s24 H locs rx23 hp25 hW => ?_)
    obtain ⟨fs24, hp25⟩ := hp25
    have hF26 := hF11.call fs24 (fun k h => by omega)
    have ghp25 := hp25.2
    have H65 := ghp25
    have G65 : s24 2 = f9 ∧ s24 1 2 = n9 := ⟨(hF26 2 (by omega)).trans hf.1, by omega⟩
    refine x_if_eq (tgt := 87) hx hb rx23 dX5_readPiece_68 (by decide) (fun c27 => ?_) (fun c27 => ?_)
    · skip
      refine x_iconst hx hb dX5_readPiece_87 ?_
      rw [eQ]
      exact x_zret hx hb hr hlk hW (by omega) ⟨hF26, ⟨hp25.1.1, (hp25.1.2.1.trans q8), (hp25.1.2.2.1.trans q9), trivial⟩, by first | exact H65.elim (fun q => absurd q.1 (by omega)) (fun q => Or.inr ⟨by omega, q.2⟩) | exact Or.inl ⟨by omega, by omega, c3, C3, hz3.shut (by decide) (by omega) (by omega), hr3.f (congrFun (fs24 118 (by omega)) 2) (fs24 119 (by omega)) (fs24 120 (by omega))⟩ | (have z := zCX.bad _ _ _ hz3 (List.cons_ne_nil _ _) h73.1 h73.2.1 (by omega); exact Or.inr ⟨by omega, by omega, by omega⟩)⟩ dX5_readPiece_88
    refine x_aload_n hx hb hl 0 rfl dX5_readPiece_71 rfl ?_
    obtain ⟨c3, C3, hz3, hr3⟩ := (H65.resolve_right (fun q => by omega)).2.2.2.2
    have h73 := (H65.resolve_right (fun q => by omega)).2.2
    have w65 := hz3.b
    refine x_get (j := 0) (v := .ref (h0 + 1)) hx hb hown hT hE hW cls_X5 (Or.inl (by decide)) (so_117 h0 g _) (by decide) rfl wq293 dX5_readPiece_72 ?_
    refine x_bipush hx hb dX5_readPiece_75 (by decide) ?_
    refine x_goi (x_runVN (As := [.int (xJ 41)]) hx hb hml hown hT hE hW hl.1 (Or.inl (by decide)) (so_1 h0 g _) rfl cf_X8_passes wq598 wq6 wn674 (c_X8_passesM l D g T h0 s24 hW.2.1 41 (by decide) (by omega) (by omega) hp25.1.1) ⟨rfl, rfl, ⟨by decide, by decide⟩, ⟨by decide, by decide⟩⟩ rfl rfl (Nat.le_of_ble_eq_true rfl) dX5_readPiece_77) hW (fun x28 s29 H locs rx28 hp30 hW => ?_)
    obtain ⟨fs29, hp30⟩ := hp30
    have hF31 := hF26.call fs29 (fun k h => by omega)
    have ghp30 := hp30.2
    have H77 := ghp30
    rw [G65.1, G65.2] at H77
    refine x_if_eq (tgt := 87) hx hb rx28 dX5_readPiece_80 (by decide) (fun c32 => ?_) (fun c32 => ?_)
    · skip
      refine x_iconst hx hb dX5_readPiece_87 ?_
      rw [eQ]
      exact x_zret hx hb hr hlk hW (by omega) ⟨hF31, ⟨hp30.1.1, (hp30.1.2.1.trans (hp25.1.2.1.trans q8)), (hp30.1.2.2.1.trans (hp25.1.2.2.1.trans q9)), trivial⟩, by first | exact H65.elim (fun q => absurd q.1 (by omega)) (fun q => Or.inr ⟨by omega, q.2⟩) | exact Or.inl ⟨by omega, by omega, c3, C3, hz3.shut (by decide) (by omega) (by omega), hr3.f (congrFun (fs29 118 (by omega)) 2) (fs29 119 (by omega)) (fs29 120 (by omega))⟩ | (have z := zCX.bad _ _ _ hz3 (List.cons_ne_nil _ _) h73.1 h73.2.1 (by omega); exact Or.inr ⟨by omega, by omega, by omega⟩)⟩ dX5_readPiece_88
    refine x_iconst hx hb dX5_readPiece_83 ?_
    refine lv_goto (tgt := 88) hx hb dX5_readPiece_84 (by decide) ?_
    rw [eQ]
    exact x_zret hx hb hr hlk hW (by omega) ⟨hF31, ⟨hp30.1.1, (hp30.1.2.1.trans (hp25.1.2.1.trans q8)), (hp30.1.2.2.1.trans (hp25.1.2.2.1.trans q9)), trivial⟩, by first | exact H65.elim (fun q => absurd q.1 (by omega)) (fun q => Or.inr ⟨by omega, q.2⟩) | exact Or.inl ⟨by omega, by omega, c3, C3, hz3.shut (by decide) (by omega) (by omega), hr3.f (congrFun (fs29 118 (by omega)) 2) (fs29 119 (by omega)) (fs29 120 (by omega))⟩ | (have z := zCX.bad _ _ _ hz3 (List.cons_ne_nil _ _) h73.1 h73.2.1 (by omega); exact Or.inr ⟨by omega, by omega, by omega⟩)⟩ dX5_readPiece_88
  refine x_icmp_eq (tgt := 20) hx hb rx1 (by decide) dX5_readPiece_11 (by decide) (fun c33 => ?_) (fun c33 => ?_)
  · skip
    exact J20 ls (by omega)  (lv_sub hl [1, 2, 0] rfl)
  refine x_iload_n hx hb hl 0 rfl dX5_readPiece_14 rfl ?_
  refine x_bipush hx hb dX5_readPiece_15 (by decide) ?_
  refine x_icmp_ne (tgt := 109) hx hb rx1 (by decide) dX5_readPiece_17 (by decide) (fun c34 => ?_) (fun c34 => ?_)
  · skip
    refine x_aload_n hx hb hl 1 rfl dX5_readPiece_109 rfl ?_
    refine x_iload_n hx hb hl 2 rfl dX5_readPiece_110 rfl ?_
    refine x_goi (x_runV (As := [.int (xJ q)]) hx hb hml hown hT hE hW hl.1 (Or.inl (by decide)) (so_117 h0 g _) rfl cf_X5_readSum wq652 wq16 wq650 (c_X5_readSumK1 l D g T h0 s0 hW.2.1 q rq f9 n9 (zqn st) (znN st) c9 C9 (zE0 f9 n9 (zqn st) (s0 1 3) c9 C9) c9 C9 ([] : List Int) s9 a9 O9 V9 (by omega) (by first | exact hf | exact ⟨(hF 2 (by omega)).trans hf.1, by omega⟩) (zEX.new (by omega)) (hrd) (by show zqn st + 0 = _; omega) (Or.inl (by decide)) p0) ⟨rfl, rfl, ⟨by decide, by decide⟩, ⟨by decide, by decide⟩⟩ rfl rfl (Nat.le_of_ble_eq_true rfl) dX5_readPiece_111) hW (fun x35 s36 H locs rx35 hp37 hW => ?_)
    obtain ⟨fs36, hp37⟩ := hp37
    have hF38 := hF.call fs36 (fun k h => by omega)
    have ghp37 := hp37.2
    have H111 := ghp37
    refine x_if_ne (tgt := 119) hx hb rx35 dX5_readPiece_114 (by decide) (fun c39 => ?_) (fun c39 => ?_)
    · skip
      refine x_aload_n hx hb hl 1 rfl dX5_readPiece_119 rfl ?_
      refine x_get (j := 0) (v := .ref (h0 + 1)) hx hb hown hT hE hW cls_X5 (Or.inl (by decide)) (so_117 h0 g _) (by decide) rfl wq293 dX5_readPiece_120 ?_
      refine x_goi (x_runVN (As := []) hx hb hml hown hT hE hW hl.1 (Or.inl (by decide)) (so_1 h0 g _) rfl cf_X8_sign wq581 wq4 wn641 (c_X8_sign l D g T h0 s36 hW.2.1 hp37.1.1) ⟨rfl, rfl, ⟨by decide, by decide⟩, ⟨by decide, by decide⟩⟩ rfl rfl (Nat.le_of_ble_eq_true rfl) dX5_readPiece_123) hW (fun x40 s41 H locs rx40 hp42 hW => ?_)
      obtain ⟨es41, hp42⟩ := hp42
      subst es41
      have ghp42 := hp42
      obtain ⟨c5, C5, hz5, hr5⟩ := (H111.resolve_right (fun q => by omega)).2.2.2
      obtain ⟨p5, ep5⟩ : ∃ p5 : Int, p5 = s36 1 3 := ⟨_, rfl⟩
      have F5 := hz5.fin (H111.resolve_right (fun q => by omega)).2.2.1
      rw [← ep5] at F5
      have b5 := hz5.b
      have o5 := hz5.1
      have C123 : x40 = zch f9 n9 (s36 1 3) := zch_i (by have q8 := congrFun (show s36 2 = f9 from (hF38 2 (by omega)).trans hf.1) (s36 1 3); have q9 := hf.2; omega)
      rw [← ep5] at C123
      have z123 := zcp_cs (zch f9 n9 p5)
      refine lv_istore_n (lv' := [(3, .int (xJ x40)), (2, .int (xJ x1)), (0, .ref (h0 + 117)), (1, .int (xJ q))]) hx hb dX5_readPiece_126 rfl hl (by decide) rfl (fun ls hl => ?_)
      refine x_iload_n hx hb hl 0 rfl dX5_readPiece_127 rfl ?_
      refine x_bipush hx hb dX5_readPiece_128 (by decide) ?_
      have J161 : ∀ (ls : Array Slot), (x40 = 60 ∨ x40 = 62 ∨ x40 = 61) → lv_has ls 5 [(0, .ref (h0 + 117)), (1, .int (xJ q)), (3, .int (xJ x40))] → W p l e { frames := 21, cells := 0, slots := 0, locals := 481 } s m args below meth c H locs 0 0 Q (F0 m 161 ls []) := by
        intro ls v161_0  hl
        refine x_aload_n hx hb hl 0 rfl dX5_readPiece_161 rfl ?_
        refine x_get (j := 0) (v := .ref (h0 + 1)) hx hb hown hT hE hW cls_X5 (Or.inl (by decide)) (so_117 h0 g _) (by decide) rfl wq293 dX5_readPiece_162 ?_
        refine lv_dup hx hb dX5_readPiece_165 rfl ?_
        refine x_getN (j := 3) (v := .int (xJ (s36 1 3))) hx hb hown hT hE hW cls_X8 (Or.inl (by decide)) (so_1 h0 g _) (by decide) rfl wn201 dX5_readPiece_166 ?_
        refine x_rd hW (fun x43 ex43 rx43 => ?_)
        refine x_iconst hx hb dX5_readPiece_169 ?_
        refine x_iadd hx hb dX5_readPiece_170 ?_
        refine x_putN (j := 3) hx hb hown hT hE hW cls_X8 (by decide) (fun σ => so_1 h0 g σ) (by decide) (st_X8_3 h0 s36 1 (x43 + 1)) (ln_X8_3 h0 _ _) wn201 rfl rfl rfl (by omega) dX5_readPiece_171 (fun H locs s44 es44 hW => ?_)
        have q45 : IC s44 := by rw [es44]; exact IC_1 hp37.1.1 (by omega)
        have q46 : s44 1 1 = s0 1 1 := (show s44 1 1 = s36 1 1 from by rw [es44, xU_j _ _ (by decide)]).trans (hp37.1.2.1.trans k1_1)
        have q47 : s44 1 2 = s0 1 2 := (show s44 1 2 = s36 1 2 from by rw [es44, xU_j _ _ (by decide)]).trans (hp37.1.2.2.1.trans k1_2)
        have q48 : s44 1 3 = (x43 + 1) := by rw [es44, xU_s]
        have hF49 := hF38.put es44 (by omega)
        refine x_aload_n hx hb hl 0 rfl dX5_readPiece_174 rfl ?_
        refine x_iload_n hx hb hl 1 rfl dX5_readPiece_175 rfl ?_
        refine x_goi (x_runV (As := [.int (xJ q)]) hx hb hml hown hT hE hW hl.1 (Or.inl (by decide)) (so_117 h0 g _) rfl cf_X5_readSum wq652 wq16 wq650 (c_X5_readSumK1 l D g T h0 s44 hW.2.1 q rq f9 n9 (zqn st) (znN st + 1) c5 C5 (zE0 f9 n9 (zqn st) (p5 + 1) c5 C5) c5 C5 ([] : List Int) s9 a9 O9 V9 (by omega) (by first | exact hf | exact ⟨(hF49 2 (by omega)).trans hf.1, by omega⟩) (by rw [show p5 + 1 = s44 1 3 from by omega]; exact zEX.new (by omega)) (hr5.u es44 (by decide)) (by show zqn st + 0 = _; omega) (Or.inl (by decide)) q45) ⟨rfl, rfl, ⟨by decide, by decide⟩, ⟨by decide, by decide⟩⟩ rfl rfl (Nat.le_of_ble_eq_true rfl) dX5_readPiece_176) hW (fun x50 s51 H locs rx50 hp52 hW => ?_)
        obtain ⟨fs51, hp52⟩ := hp52
        have hF53 := hF49.call fs51 (fun k h => by omega)
        have ghp52 := hp52.2
        have H176 := ghp52
        refine lv_istore (lv' := [(4, .int (xJ x50)), (0, .ref (h0 + 117)), (1, .int (xJ q)), (3, .int (xJ x40))]) hx hb dX5_readPiece_179 hl (by decide) rfl (fun ls hl => ?_)
        refine x_aload_n hx hb hl 1 rfl dX5_readPiece_181 rfl ?_
        refine x_get (j := 1) (v := .ref (h0 + 118)) hx hb hown hT hE hW cls_X5 (Or.inl (by decide)) (so_117 h0 g _) (by decide) rfl wq294 dX5_readPiece_182 ?_
        refine x_iload_n hx hb hl 3 rfl dX5_readPiece_185 rfl ?_
        refine x_iconst hx hb dX5_readPiece_186 ?_
        refine x_goi (x_runVN (As := [.int (xJ x40), .int (xJ 0)]) hx hb hml hown hT hE hW hl.1 (Or.inl (by decide)) (so_118 h0 g _) rfl cf_X4_put wq672 wq21 wn670 (c_X4_putK l D g T h0 s51 hW.2.1 x40 rx40 0 (by decide) hp52.1.1) ⟨rfl, rfl, ⟨by decide, by decide⟩, ⟨by decide, by decide⟩⟩ rfl rfl (Nat.le_of_ble_eq_true rfl) dX5_readPiece_187) hW (fun x54 s55 H locs rx54 hp56 hW => ?_)
        obtain ⟨fs55, hp56⟩ := hp56
        have hF57 := hF53.call fs55 (fun k h => by omega)
        have q58 : s55 1 1 = s0 1 1 := (congrFun (fs55 _ (by omega)) _).trans (hp52.1.2.1.trans q46)
        have q59 : s55 1 2 = s0 1 2 := (congrFun (fs55 _ (by omega)) _).trans (hp52.1.2.2.1.trans q47)
        have ghp56 := hp56.2
        have H187 := ghp56
        refine lv_pop hx hb dX5_readPiece_190 rfl ?_
        refine x_iload hx hb hl 0 rfl dX5_readPiece_191 ?_
        rw [eQ]
        exact x_zret hx hb hr hlk hW (by omega) ⟨hF57, ⟨hp56.1.1, q58, q59, trivial⟩, (by
    have u3 : s55 1 3 = s51 1 3 := congrFun (fs55 1 (by omega)) 3
    have u4 : s55 1 4 = s51 1 4 := congrFun (fs55 1 (by omega)) 4
    rcases H176 with q | q
    · obtain ⟨c6, C6, hz6, hr6⟩ := q.2.2.2
      have F6 := hz6.fin q.2.2.1
      have y := hr6.b
      have y2 := hz6.b
      have o6 := hz6.1
      have P := H187 (by omega)
      have M := zom_cp (x := x40) (v := 1048576 * zcp (zch f9 n9 p5)) (by rw [C123]) (by rw [C123]; omega)
      refine Or.inl ⟨q.1, by omega, c6 + 1, xud C6 c6 (1048576 * zcp (zch f9 n9 p5)), ?_, hr6.put P.2.1 P.2.2.1 P.2.2.2 M.1 (M.2 _) rfl rfl⟩
      rw [u3]
      exact hz.cmp (by omega) F5 (by omega) (p2 := s51 1 3) F6 (by omega) (fun k hk => by rw [o6.2 k (by omega), o5.2 k hk]) rfl rfl
    · have z := hz.e2 (by omega) F5 (by omega) q.2.1
      rw [z]
      exact Or.inr ⟨q.1, q.2.1, u4.trans q.2.2⟩)⟩ dX5_readPiece_193
      refine x_icmp_eq (tgt := 161) hx hb rx40 (by decide) dX5_readPiece_130 (by decide) (fun c60 => ?_) (fun c60 => ?_)
      · skip
        exact J161 ls (by omega)  (lv_sub hl [2, 3, 0] rfl)
      refine x_iload_n hx hb hl 0 rfl dX5_readPiece_133 rfl ?_
      refine x_bipush hx hb dX5_readPiece_134 (by decide) ?_
      refine x_icmp_eq (tgt := 161) hx hb rx40 (by decide) dX5_readPiece_136 (by decide) (fun c61 => ?_) (fun c61 => ?_)
      · skip
        exact J161 ls (by omega)  (lv_sub hl [2, 3, 0] rfl)
      refine x_iload_n hx hb hl 0 rfl dX5_readPiece_139 rfl ?_
      refine x_bipush hx hb dX5_readPiece_140 (by decide) ?_
      refine x_icmp_eq (tgt := 161) hx hb rx40 (by decide) dX5_readPiece_142 (by decide) (fun c62 => ?_) (fun c62 => ?_)
      · skip
        exact J161 ls (by omega)  (lv_sub hl [2, 3, 0] rfl)
      refine x_aload_n hx hb hl 2 rfl dX5_readPiece_145 rfl ?_
      refine x_get (j := 0) (v := .ref (h0 + 1)) hx hb hown hT hE hW cls_X5 (Or.inl (by decide)) (so_117 h0 g _) (by decide) rfl wq293 dX5_readPiece_146 ?_
      refine x_iconst hx hb dX5_readPiece_149 ?_
      refine x_aload_n hx hb hl 2 rfl dX5_readPiece_150 rfl ?_
      refine x_get (j := 0) (v := .ref (h0 + 1)) hx hb hown hT hE hW cls_X5 (Or.inl (by decide)) (so_117 h0 g _) (by decide) rfl wq293 dX5_readPiece_151 ?_
      refine x_getN (j := 3) (v := .int (xJ (s36 1 3))) hx hb hown hT hE hW cls_X8 (Or.inl (by decide)) (so_1 h0 g _) (by decide) rfl wn201 dX5_readPiece_154 ?_
      refine x_rd hW (fun x63 ex63 rx63 => ?_)
      refine x_goi (x_runVN (As := [.int (xJ 1), .int (xJ x63)]) hx hb hml hown hT hE hW hl.1 (Or.inl (by decide)) (so_1 h0 g _) rfl cf_X8_fails wq588 wq5 wn645 (c_X8_failsM l D g T h0 s36 hW.2.1 1 (by decide) x63 rx63 (by omega) hp37.1.1) ⟨rfl, rfl, ⟨by decide, by decide⟩, ⟨by decide, by decide⟩⟩ rfl rfl (Nat.le_of_ble_eq_true rfl) dX5_readPiece_157) hW (fun x64 s65 H locs rx64 hp66 hW => ?_)
      obtain ⟨fs65, hp66⟩ := hp66
      have hF67 := hF38.call fs65 (fun k h => by omega)
      have ghp66 := hp66.2
      rw [eQ]
      exact x_zret hx hb hr hlk hW (by omega) ⟨hF67, ⟨hp66.1.1, (hp66.1.2.1.trans (hp37.1.2.1.trans k1_1)), (hp66.1.2.2.1.trans (hp37.1.2.2.1.trans k1_2)), trivial⟩, (by
    have z := hz.one (by omega) F5 (by omega)
    rw [z]
    exact Or.inr ⟨by omega, (by show (-1000 - _ : Int) ≠ 0; omega), (by show _ = (-1000 - _ : Int); omega)⟩)⟩ dX5_readPiece_160
    refine x_iconst hx hb dX5_readPiece_117 ?_
    rw [eQ]
    exact x_zret hx hb hr hlk hW (by omega) ⟨hF38, ⟨hp37.1.1, (hp37.1.2.1.trans k1_1), (hp37.1.2.2.1.trans k1_2), trivial⟩, (by
    have e := H111.elim (fun q => absurd q.1 (by omega)) (fun q => q)
    have z := hz.e1 (by omega) e.2.1
    rw [z]
    exact Or.inr ⟨by omega, e.2.1, e.2.2⟩)⟩ dX5_readPiece_118
  exact J20 ls (by omega)  (lv_sub hl [1, 2, 0] rfl)
set_option maxHeartbeats 4000000 in
set_option maxRecDepth 100000 in
theorem c_X5_readPiecesK1 (l : Launch) (D : va_G) (g : xG) (T : Nat × Nat × Nat) (h0 : Nat) (s0 : xS) (hσ : xRR s0) (q : Int) (rq : xR q) (f9 : Int → Int) (n9 : Int) (Z : Int × Int × Int × (Int → Int)) (c9 : Int) (C9 : Int → Int) (st : List Int) (s9 : Int) (a9 : Int) (O9 : Int → Int) (V9 : Int → Int) (hq : q = 1) (hf : s0 2 = f9 ∧ s0 1 2 = n9) (hz : zCX f9 n9 a9 Z true (s0 1 3) c9 C9 st) (hrd : zRD s0 s9 a9 c9 C9 O9 V9) (hst : zqn st = 1) (ht : 12582912 ≤ ztp st) (p0 : IC s0) : Met l yX5_readPieces (xws yX5_readPieces cX5_readPieces 4 (some .boolean)) { frames := 22, cells := 0, slots := 0, locals := 505 } (xP [.ref (h0 + 117), .int (xJ q)] D g T h0 s0) (xQi D g h0 (fun r τ => xFr (fun k => k = 1 ∨ k = 118 ∨ k = 119 ∨ k = 120) s0 τ ∧ (((IC τ) ∧ (τ 1 1 = s0 1 1) ∧ (τ 1 2 = s0 1 2) ∧ True) ∧ ((r = 1 ∧ s0 1 3 + 1 ≤ τ 1 3 ∧ zch f9 n9 (τ 1 3) ≠ 38 ∧ ∃ c2 C2, zCX f9 n9 a9 Z false (τ 1 3) c2 C2 st ∧ zRD τ s9 a9 c2 C2 O9 V9) ∨ (r = 0 ∧ Z.1 ≠ 0 ∧ τ 1 4 = Z.1))))) 0 0 (xA h0) := by
  refine x_met hσ (by decide) (Nat.le_of_ble_eq_true rfl) ?_
  intro p e s m args below meth c hx hb hr hml hown hT hlk hnm hE hW ls hl
  have hl : lv_has ls 4 [(0, .ref (h0 + 117)), (1, .int (xJ q))] := hl
  obtain ⟨Q, eQ⟩ : ∃ Q, Q = MQ below (xQi D g h0 (fun r τ => xFr (fun k => k = 1 ∨ k = 118 ∨ k = 119 ∨ k = 120) s0 τ ∧ (((IC τ) ∧ (τ 1 1 = s0 1 1) ∧ (τ 1 2 = s0 1 2) ∧ True) ∧ ((r = 1 ∧ s0 1 3 + 1 ≤ τ 1 3 ∧ zch f9 n9 (τ 1 3) ≠ 38 ∧ ∃ c2 C2, zCX f9 n9 a9 Z false (τ 1 3) c2 C2 st ∧ zRD τ s9 a9 c2 C2 O9 V9) ∨ (r = 0 ∧ Z.1 ≠ 0 ∧ τ 1 4 = Z.1))))) args s 0 0 (xA h0) := ⟨_, rfl⟩
  rw [← eQ]
  generalize hHe : ([] : List Loc) = locs at hW ⊢
  obtain ⟨H, eH⟩ : ∃ H, H = s.heap := ⟨_, rfl⟩
  rw [← eH] at hW ⊢
  have hF : xFr (fun k => k = 1 ∨ k = 118 ∨ k = 119 ∨ k = 120) s0 s0 := xFr.rf
  have k1_1 : s0 1 1 = s0 1 1 := rfl
  have k1_2 : s0 1 2 = s0 1 2 := rfl
  have k1_3 : s0 1 3 = s0 1 3 := rfl
  have hb9 := hz.b
  have hrb := hrd.b
  have hf2 := hf.2
  refine x_aload_n hx hb hl 0 rfl dX5_readPieces_0 rfl ?_
  refine x_iload_n hx hb hl 1 rfl dX5_readPieces_1 rfl ?_
  refine x_goi (x_runV (As := [.int (xJ q)]) hx hb hml hown hT hE hW hl.1 (Or.inl (by decide)) (so_117 h0 g _) rfl cf_X5_readPiece wq688 wq24 wq686 (c_X5_readPieceK1 l D g T h0 s0 hW.2.1 q rq f9 n9 Z c9 C9 st s9 a9 O9 V9 (by omega) (by first | exact hf | exact ⟨(hF 2 (by omega)).trans hf.1, by omega⟩) (hz) (hrd) (hst) p0) ⟨rfl, rfl, ⟨by decide, by decide⟩, ⟨by decide, by decide⟩⟩ rfl rfl (Nat.le_of_ble_eq_true rfl) dX5_readPieces_2) hW (fun x1 s2 H locs rx1 hp3 hW => ?_)
  obtain ⟨fs2, hp3⟩ := hp3
  have hF4 := hF.call fs2 (fun k h => by omega)
  have ghp3 := hp3.2
  have H2 := ghp3
  refine x_if_ne (tgt := 10) hx hb rx1 dX5_readPieces_5 (by decide) (fun c5 => ?_) (fun c5 => ?_)
  · skip
    refine x_iconst hx hb dX5_readPieces_10 ?_
    refine lv_istore_n (lv' := [(2, .int (xJ 0)), (0, .ref (h0 + 117)), (1, .int (xJ q))]) hx hb dX5_readPieces_11 rfl hl (by decide) rfl (fun ls hl => ?_)
    have L12 : ∀ (fu : Nat) (i2_12 : Int) (s_12 : xS) (H : Heap) (locs : List Loc) (ls : Array Slot), (xR i2_12) → (xFr (fun k => k = 1 ∨ k = 118 ∨ k = 119 ∨ k = 120) s0 s_12) → (IC s_12) → (s_12 1 1 = s0 1 1) → (s_12 1 2 = s0 1 2) → (0 ≤ i2_12 ∧ i2_12 + s0 1 3 + 1 ≤ s_12 1 3) → (∃ c2 C2, zCX f9 n9 a9 Z false (s_12 1 3) c2 C2 st ∧ zRD s_12 s9 a9 c2 C2 O9 V9) → (300 - i2_12).toNat < fu → xW D g h0 s H locs s_12 → lv_has ls 4 [(0, .ref (h0 + 117)), (1, .int (xJ q)), (2, .int (xJ i2_12))] → W p l e { frames := 22, cells := 0, slots := 0, locals := 505 } s m args below meth c H locs 0 0 Q (F0 m 12 ls []) := by
      intro fu
      induction fu with
      | zero => intro i2_12 s_12 H locs ls ri2_12 hF_12 q12_0 q12_1 q12_2 v12_0 v12_1 hm; exact absurd hm (Nat.not_lt_zero _)
      | succ fu ih12 =>
        intro i2_12 s_12 H locs ls ri2_12 hF_12 q12_0 q12_1 q12_2 v12_0 v12_1 hm hW hl
        obtain ⟨c2, C2, hz2, hr2⟩ := v12_1
        have w12 := hz2.b
        have y12 := hr2.b
        refine x_iload_n hx hb hl 2 rfl dX5_readPieces_12 rfl ?_
        refine x_sipush hx hb dX5_readPieces_13 (by decide) ?_
        refine x_icmp_ge (tgt := 78) hx hb ri2_12 (by decide) dX5_readPieces_16 (by decide) (fun c6 => False.elim (by omega)) (fun c6 => ?_)
        refine x_aload_n hx hb hl 0 rfl dX5_readPieces_19 rfl ?_
        refine x_get (j := 0) (v := .ref (h0 + 1)) hx hb hown hT hE hW cls_X5 (Or.inl (by decide)) (so_117 h0 g _) (by decide) rfl wq293 dX5_readPieces_20 ?_
        refine x_goi (x_runVN (As := []) hx hb hml hown hT hE hW hl.1 (Or.inl (by decide)) (so_1 h0 g _) rfl cf_X8_sign wq581 wq4 wn641 (c_X8_sign l D g T h0 s_12 hW.2.1 q12_0) ⟨rfl, rfl, ⟨by decide, by decide⟩, ⟨by decide, by decide⟩⟩ rfl rfl (Nat.le_of_ble_eq_true rfl) dX5_readPieces_23) hW (fun x7 s8 H locs rx7 hp9 hW => ?_)
        obtain ⟨es8, hp9⟩ := hp9
        subst es8
        have ghp9 := hp9
        have C23 : x7 = zch f9 n9 (s_12 1 3) := zch_i (by have q8 := congrFun (show s_12 2 = f9 from (hF_12 2 (by omega)).trans hf.1) (s_12 1 3); have q9 := hf.2; omega)
        refine x_bipush hx hb dX5_readPieces_26 (by decide) ?_
        refine x_icmp_ne (tgt := 78) hx hb rx7 (by decide) dX5_readPieces_28 (by decide) (fun c10 => ?_) (fun c10 => ?_)
        · skip
          refine x_iconst hx hb dX5_readPieces_78 ?_
          rw [eQ]
          exact x_zret hx hb hr hlk hW (by omega) ⟨hF_12, ⟨q12_0, q12_1, q12_2, trivial⟩, Or.inl ⟨by omega, by omega, by omega, c2, C2, hz2, hr2⟩⟩ dX5_readPieces_79
        refine x_aload_n hx hb hl 0 rfl dX5_readPieces_31 rfl ?_
        refine x_get (j := 0) (v := .ref (h0 + 1)) hx hb hown hT hE hW cls_X5 (Or.inl (by decide)) (so_117 h0 g _) (by decide) rfl wq293 dX5_readPieces_32 ?_
        refine lv_dup hx hb dX5_readPieces_35 rfl ?_
        refine x_getN (j := 3) (v := .int (xJ (s_12 1 3))) hx hb hown hT hE hW cls_X8 (Or.inl (by decide)) (so_1 h0 g _) (by decide) rfl wn201 dX5_readPieces_36 ?_
        refine x_rd hW (fun x11 ex11 rx11 => ?_)
        refine x_iconst hx hb dX5_readPieces_39 ?_
        refine x_iadd hx hb dX5_readPieces_40 ?_
        refine x_putN (j := 3) hx hb hown hT hE hW cls_X8 (by decide) (fun σ => so_1 h0 g σ) (by decide) (st_X8_3 h0 s_12 1 (x11 + 1)) (ln_X8_3 h0 _ _) wn201 rfl rfl rfl (by omega) dX5_readPieces_41 (fun H locs s12 es12 hW => ?_)
        have q13 : IC s12 := by rw [es12]; exact IC_1 q12_0 (by omega)
        have q14 : s12 1 1 = s0 1 1 := (show s12 1 1 = s_12 1 1 from by rw [es12, xU_j _ _ (by decide)]).trans q12_1
        have q15 : s12 1 2 = s0 1 2 := (show s12 1 2 = s_12 1 2 from by rw [es12, xU_j _ _ (by decide)]).trans q12_2
        have q16 : s12 1 3 = (x11 + 1) := by rw [es12, xU_s]
        have hF17 := hF_12.put es12 (by omega)
        have R41 := hr2.u es12 (by decide)
        refine x_aload_n hx hb hl 0 rfl dX5_readPieces_44 rfl ?_
        refine x_get (j := 1) (v := .ref (h0 + 118)) hx hb hown hT hE hW cls_X5 (Or.inl (by decide)) (so_117 h0 g _) (by decide) rfl wq294 dX5_readPieces_45 ?_
        refine x_iconst hx hb dX5_readPieces_48 ?_
        refine x_iconst hx hb dX5_readPieces_49 ?_
        refine x_goi (x_runVN (As := [.int (xJ 4), .int (xJ 0)]) hx hb hml hown hT hE hW hl.1 (Or.inl (by decide)) (so_118 h0 g _) rfl cf_X4_put wq672 wq21 wn670 (c_X4_putK l D g T h0 s12 hW.2.1 4 (by decide) 0 (by decide) q13) ⟨rfl, rfl, ⟨by decide, by decide⟩, ⟨by decide, by decide⟩⟩ rfl rfl (Nat.le_of_ble_eq_true rfl) dX5_readPieces_50) hW (fun x18 s19 H locs rx18 hp20 hW => ?_)
        obtain ⟨fs19, hp20⟩ := hp20
        have hF21 := hF17.call fs19 (fun k h => by omega)
        have q22 : s19 1 1 = s0 1 1 := (congrFun (fs19 _ (by omega)) _).trans q14
        have q23 : s19 1 2 = s0 1 2 := (congrFun (fs19 _ (by omega)) _).trans q15
        have q24 : s19 1 3 = (x11 + 1) := (congrFun (fs19 _ (by omega)) _).trans q16
        have ghp20 := hp20.2
        have H50 := ghp20 (by have y := R41.b; omega)
        have O50 : zCX f9 n9 a9 Z true (s19 1 3) (c2 + 1) (xud C2 c2 11534336) ((11534336 + c2) :: st) := hz2.and_ ht (by omega) (by omega) rfl rfl rfl
        have R50 : zRD s19 s9 a9 (c2 + 1) (xud C2 c2 11534336) O9 V9 := R41.put H50.2.1 H50.2.2.1 H50.2.2.2 (by decide) (zwm_0 _).2.1 rfl rfl
        have L50 : x18 = c2 + s9 := by have y := R41.b; omega
        refine lv_istore_n (lv' := [(3, .int (xJ x18)), (0, .ref (h0 + 117)), (1, .int (xJ q)), (2, .int (xJ i2_12))]) hx hb dX5_readPieces_53 rfl hl (by decide) rfl (fun ls hl => ?_)
        refine x_aload_n hx hb hl 1 rfl dX5_readPieces_54 rfl ?_
        refine x_iload_n hx hb hl 2 rfl dX5_readPieces_55 rfl ?_
        refine x_goi (x_runV (As := [.int (xJ q)]) hx hb hml hown hT hE hW hl.1 (Or.inl (by decide)) (so_117 h0 g _) rfl cf_X5_readPiece wq688 wq24 wq686 (c_X5_readPieceK1 l D g T h0 s19 hW.2.1 q rq f9 n9 Z (c2 + 1) (xud C2 c2 11534336) ((11534336 + c2) :: st) s9 a9 O9 V9 (by omega) (by first | exact hf | exact ⟨(hF21 2 (by omega)).trans hf.1, by omega⟩) (O50) (R50) (by rw [zqn_z (by omega)]; omega) hp20.1.1) ⟨rfl, rfl, ⟨by decide, by decide⟩, ⟨by decide, by decide⟩⟩ rfl rfl (Nat.le_of_ble_eq_true rfl) dX5_readPieces_56) hW (fun x25 s26 H locs rx25 hp27 hW => ?_)
        obtain ⟨fs26, hp27⟩ := hp27
        have hF28 := hF21.call fs26 (fun k h => by omega)
        have ghp27 := hp27.2
        have H56 := ghp27
        refine x_if_ne (tgt := 64) hx hb rx25 dX5_readPieces_59 (by decide) (fun c29 => ?_) (fun c29 => ?_)
        · skip
          refine x_aload_n hx hb hl 1 rfl dX5_readPieces_64 rfl ?_
          refine x_get (j := 1) (v := .ref (h0 + 118)) hx hb hown hT hE hW cls_X5 (Or.inl (by decide)) (so_117 h0 g _) (by decide) rfl wq294 dX5_readPieces_65 ?_
          obtain ⟨c3, C3, hz3, hr3⟩ := (H56.resolve_right (fun q => by omega)).2.2
          have w3 := hz3.b
          have y3 := hr3.b
          have s3 := hz3.sh.1
          refine x_iload_n hx hb hl 0 rfl dX5_readPieces_68 rfl ?_
          refine x_gov (x_runVN (As := [.int (xJ x18)]) hx hb hml hown hT hE hW hl.1 (Or.inl (by decide)) (so_118 h0 g _) rfl cf_X4_landSkip wq692 wq25 wn690 (c_X4_landSkipK l D g T h0 s26 hW.2.1 x18 rx18 (by omega) hp27.1.1) ⟨rfl, rfl, ⟨by decide, by decide⟩, ⟨by decide, by decide⟩⟩ rfl rfl (Nat.le_of_ble_eq_true rfl) dX5_readPieces_69) hW (fun s31 H locs hp32 hW => ?_)
          obtain ⟨fs31, hp32⟩ := hp32
          have hF33 := hF28.call fs31 (fun k h => by omega)
          have q34 : s31 1 1 = s0 1 1 := (congrFun (fs31 _ (by omega)) _).trans (hp27.1.2.1.trans q22)
          have q35 : s31 1 2 = s0 1 2 := (congrFun (fs31 _ (by omega)) _).trans (hp27.1.2.2.1.trans q23)
          have ghp32 := hp32.2
          have H69 := ghp32
          have Y69 : s31 1 3 = s26 1 3 := congrFun (fs31 1 (by omega)) 3
          have X69 : ∃ c2 C2, zCX f9 n9 a9 Z false (s31 1 3) c2 C2 st ∧ zRD s31 s9 a9 c2 C2 O9 V9 := ⟨c3, zland C3 (11534336 + c2) c3, by rw [show s31 1 3 = s26 1 3 from congrFun (fs31 1 (by omega)) 3]; exact hz3.landA (by omega) rfl, hr3.land (congrFun (fs31 118 (by omega)) 2) (fs31 119 (by omega)) H69 (by omega) (by omega) (by omega) (by omega) (by omega)⟩
          refine x_iinc (lv' := [(2, .int (xJ (i2_12 + 1))), (3, .int (xJ x18)), (0, .ref (h0 + 117)), (1, .int (xJ q))]) hx hb hl 3 rfl dX5_readPieces_72 (by decide) rfl (fun ls hl => ?_)
          refine lv_goto (tgt := 12) hx hb dX5_readPieces_75 (by decide) ?_
          exact ih12 (i2_12 + 1) s31 H locs ls (by omega) hF33 hp32.1.1 q34 q35 (by omega) (X69) (by omega) hW (lv_sub hl [2, 3, 0] rfl)
        refine x_iconst hx hb dX5_readPieces_62 ?_
        rw [eQ]
        exact x_zret hx hb hr hlk hW (by omega) ⟨hF28, ⟨hp27.1.1, (hp27.1.2.1.trans q22), (hp27.1.2.2.1.trans q23), trivial⟩, H56.elim (fun q => absurd q.1 (by omega)) (fun q => Or.inr ⟨by omega, q.2⟩)⟩ dX5_readPieces_63
    exact L12 ((300 - 0 : Int).toNat + 1) 0 s2 H locs ls (by decide) hF4 hp3.1.1 (hp3.1.2.1.trans k1_1) (hp3.1.2.2.1.trans k1_2) (by omega) ((H2.resolve_right (fun q => by omega)).2.2) (Nat.lt_succ_self _) hW (lv_sub hl [1, 2, 0] rfl)
  refine x_iconst hx hb dX5_readPieces_8 ?_
  rw [eQ]
  exact x_zret hx hb hr hlk hW (by omega) ⟨hF4, ⟨hp3.1.1, (hp3.1.2.1.trans k1_1), (hp3.1.2.2.1.trans k1_2), trivial⟩, H2.elim (fun q => absurd q.1 (by omega)) (fun q => Or.inr ⟨by omega, q.2⟩)⟩ dX5_readPieces_9
set_option maxHeartbeats 4000000 in
set_option maxRecDepth 100000 in
theorem c_X5_readPartsK1 (l : Launch) (D : va_G) (g : xG) (T : Nat × Nat × Nat) (h0 : Nat) (s0 : xS) (hσ : xRR s0) (q : Int) (rq : xR q) (f9 : Int → Int) (n9 : Int) (Z : Int × Int × Int × (Int → Int)) (c9 : Int) (C9 : Int → Int) (st : List Int) (s9 : Int) (a9 : Int) (O9 : Int → Int) (V9 : Int → Int) (hq : q = 1) (hf : s0 2 = f9 ∧ s0 1 2 = n9) (hz : zCX f9 n9 a9 Z true (s0 1 3) c9 C9 st) (hrd : zRD s0 s9 a9 c9 C9 O9 V9) (hst : zqn st = 1) (ht : 13631488 ≤ ztp st) (p0 : IC s0) : Met l yX5_readParts (xws yX5_readParts cX5_readParts 4 (some .boolean)) { frames := 23, cells := 0, slots := 0, locals := 528 } (xP [.ref (h0 + 117), .int (xJ q)] D g T h0 s0) (xQi D g h0 (fun r τ => xFr (fun k => k = 1 ∨ k = 118 ∨ k = 119 ∨ k = 120) s0 τ ∧ (((IC τ) ∧ (τ 1 1 = s0 1 1) ∧ (τ 1 2 = s0 1 2) ∧ True) ∧ ((r = 1 ∧ s0 1 3 + 1 ≤ τ 1 3 ∧ zch f9 n9 (τ 1 3) ≠ 38 ∧ zch f9 n9 (τ 1 3) ≠ 124 ∧ ∃ c2 C2, zCX f9 n9 a9 Z false (τ 1 3) c2 C2 st ∧ zRD τ s9 a9 c2 C2 O9 V9) ∨ (r = 0 ∧ Z.1 ≠ 0 ∧ τ 1 4 = Z.1))))) 0 0 (xA h0) := by
  refine x_met hσ (by decide) (Nat.le_of_ble_eq_true rfl) ?_
  intro p e s m args below meth c hx hb hr hml hown hT hlk hnm hE hW ls hl
  have hl : lv_has ls 4 [(0, .ref (h0 + 117)), (1, .int (xJ q))] := hl
  obtain ⟨Q, eQ⟩ : ∃ Q, Q = MQ below (xQi D g h0 (fun r τ => xFr (fun k => k = 1 ∨ k = 118 ∨ k = 119 ∨ k = 120) s0 τ ∧ (((IC τ) ∧ (τ 1 1 = s0 1 1) ∧ (τ 1 2 = s0 1 2) ∧ True) ∧ ((r = 1 ∧ s0 1 3 + 1 ≤ τ 1 3 ∧ zch f9 n9 (τ 1 3) ≠ 38 ∧ zch f9 n9 (τ 1 3) ≠ 124 ∧ ∃ c2 C2, zCX f9 n9 a9 Z false (τ 1 3) c2 C2 st ∧ zRD τ s9 a9 c2 C2 O9 V9) ∨ (r = 0 ∧ Z.1 ≠ 0 ∧ τ 1 4 = Z.1))))) args s 0 0 (xA h0) := ⟨_, rfl⟩
  rw [← eQ]
  generalize hHe : ([] : List Loc) = locs at hW ⊢
  obtain ⟨H, eH⟩ : ∃ H, H = s.heap := ⟨_, rfl⟩
  rw [← eH] at hW ⊢
  have hF : xFr (fun k => k = 1 ∨ k = 118 ∨ k = 119 ∨ k = 120) s0 s0 := xFr.rf
  have k1_1 : s0 1 1 = s0 1 1 := rfl
  have k1_2 : s0 1 2 = s0 1 2 := rfl
  have k1_3 : s0 1 3 = s0 1 3 := rfl
  have hb9 := hz.b
  have hrb := hrd.b
  have hf2 := hf.2
  refine x_aload_n hx hb hl 0 rfl dX5_readParts_0 rfl ?_
  refine x_iload_n hx hb hl 1 rfl dX5_readParts_1 rfl ?_
  refine x_goi (x_runV (As := [.int (xJ q)]) hx hb hml hown hT hE hW hl.1 (Or.inl (by decide)) (so_117 h0 g _) rfl cf_X5_readPieces wq684 wq23 wq682 (c_X5_readPiecesK1 l D g T h0 s0 hW.2.1 q rq f9 n9 Z c9 C9 st s9 a9 O9 V9 (by omega) (by first | exact hf | exact ⟨(hF 2 (by omega)).trans hf.1, by omega⟩) (hz) (hrd) (hst) (by omega) p0) ⟨rfl, rfl, ⟨by decide, by decide⟩, ⟨by decide, by decide⟩⟩ rfl rfl (Nat.le_of_ble_eq_true rfl) dX5_readParts_2) hW (fun x1 s2 H locs rx1 hp3 hW => ?_)
  obtain ⟨fs2, hp3⟩ := hp3
  have hF4 := hF.call fs2 (fun k h => by omega)
  have ghp3 := hp3.2
  have H2 := ghp3
  refine x_if_ne (tgt := 10) hx hb rx1 dX5_readParts_5 (by decide) (fun c5 => ?_) (fun c5 => ?_)
  · skip
    refine x_iconst hx hb dX5_readParts_10 ?_
    refine lv_istore_n (lv' := [(2, .int (xJ 0)), (0, .ref (h0 + 117)), (1, .int (xJ q))]) hx hb dX5_readParts_11 rfl hl (by decide) rfl (fun ls hl => ?_)
    have L12 : ∀ (fu : Nat) (i2_12 : Int) (s_12 : xS) (H : Heap) (locs : List Loc) (ls : Array Slot), (xR i2_12) → (xFr (fun k => k = 1 ∨ k = 118 ∨ k = 119 ∨ k = 120) s0 s_12) → (IC s_12) → (s_12 1 1 = s0 1 1) → (s_12 1 2 = s0 1 2) → (0 ≤ i2_12 ∧ i2_12 + s0 1 3 + 1 ≤ s_12 1 3) → (∃ c2 C2, zCX f9 n9 a9 Z false (s_12 1 3) c2 C2 st ∧ zRD s_12 s9 a9 c2 C2 O9 V9) → (zch f9 n9 (s_12 1 3) ≠ 38) → (300 - i2_12).toNat < fu → xW D g h0 s H locs s_12 → lv_has ls 4 [(0, .ref (h0 + 117)), (1, .int (xJ q)), (2, .int (xJ i2_12))] → W p l e { frames := 23, cells := 0, slots := 0, locals := 528 } s m args below meth c H locs 0 0 Q (F0 m 12 ls []) := by
      intro fu
      induction fu with
      | zero => intro i2_12 s_12 H locs ls ri2_12 hF_12 q12_0 q12_1 q12_2 v12_0 v12_1 v12_2 hm; exact absurd hm (Nat.not_lt_zero _)
      | succ fu ih12 =>
        intro i2_12 s_12 H locs ls ri2_12 hF_12 q12_0 q12_1 q12_2 v12_0 v12_1 v12_2 hm hW hl
        obtain ⟨c2, C2, hz2, hr2⟩ := v12_1
        have w12 := hz2.b
        have y12 := hr2.b
        refine x_iload_n hx hb hl 2 rfl dX5_readParts_12 rfl ?_
        refine x_sipush hx hb dX5_readParts_13 (by decide) ?_
        refine x_icmp_ge (tgt := 78) hx hb ri2_12 (by decide) dX5_readParts_16 (by decide) (fun c6 => False.elim (by omega)) (fun c6 => ?_)
        refine x_aload_n hx hb hl 0 rfl dX5_readParts_19 rfl ?_
        refine x_get (j := 0) (v := .ref (h0 + 1)) hx hb hown hT hE hW cls_X5 (Or.inl (by decide)) (so_117 h0 g _) (by decide) rfl wq293 dX5_readParts_20 ?_
        refine x_goi (x_runVN (As := []) hx hb hml hown hT hE hW hl.1 (Or.inl (by decide)) (so_1 h0 g _) rfl cf_X8_sign wq581 wq4 wn641 (c_X8_sign l D g T h0 s_12 hW.2.1 q12_0) ⟨rfl, rfl, ⟨by decide, by decide⟩, ⟨by decide, by decide⟩⟩ rfl rfl (Nat.le_of_ble_eq_true rfl) dX5_readParts_23) hW (fun x7 s8 H locs rx7 hp9 hW => ?_)
        obtain ⟨es8, hp9⟩ := hp9
        subst es8
        have ghp9 := hp9
        have C23 : x7 = zch f9 n9 (s_12 1 3) := zch_i (by have q8 := congrFun (show s_12 2 = f9 from (hF_12 2 (by omega)).trans hf.1) (s_12 1 3); have q9 := hf.2; omega)
        refine x_bipush hx hb dX5_readParts_26 (by decide) ?_
        refine x_icmp_ne (tgt := 78) hx hb rx7 (by decide) dX5_readParts_28 (by decide) (fun c10 => ?_) (fun c10 => ?_)
        · skip
          refine x_iconst hx hb dX5_readParts_78 ?_
          rw [eQ]
          exact x_zret hx hb hr hlk hW (by omega) ⟨hF_12, ⟨q12_0, q12_1, q12_2, trivial⟩, Or.inl ⟨by omega, by omega, by omega, by omega, c2, C2, hz2, hr2⟩⟩ dX5_readParts_79
        refine x_aload_n hx hb hl 0 rfl dX5_readParts_31 rfl ?_
        refine x_get (j := 0) (v := .ref (h0 + 1)) hx hb hown hT hE hW cls_X5 (Or.inl (by decide)) (so_117 h0 g _) (by decide) rfl wq293 dX5_readParts_32 ?_
        refine lv_dup hx hb dX5_readParts_35 rfl ?_
        refine x_getN (j := 3) (v := .int (xJ (s_12 1 3))) hx hb hown hT hE hW cls_X8 (Or.inl (by decide)) (so_1 h0 g _) (by decide) rfl wn201 dX5_readParts_36 ?_
        refine x_rd hW (fun x11 ex11 rx11 => ?_)
        refine x_iconst hx hb dX5_readParts_39 ?_
        refine x_iadd hx hb dX5_readParts_40 ?_
        refine x_putN (j := 3) hx hb hown hT hE hW cls_X8 (by decide) (fun σ => so_1 h0 g σ) (by decide) (st_X8_3 h0 s_12 1 (x11 + 1)) (ln_X8_3 h0 _ _) wn201 rfl rfl rfl (by omega) dX5_readParts_41 (fun H locs s12 es12 hW => ?_)
        have q13 : IC s12 := by rw [es12]; exact IC_1 q12_0 (by omega)
        have q14 : s12 1 1 = s0 1 1 := (show s12 1 1 = s_12 1 1 from by rw [es12, xU_j _ _ (by decide)]).trans q12_1
        have q15 : s12 1 2 = s0 1 2 := (show s12 1 2 = s_12 1 2 from by rw [es12, xU_j _ _ (by decide)]).trans q12_2
        have q16 : s12 1 3 = (x11 + 1) := by rw [es12, xU_s]
        have hF17 := hF_12.put es12 (by omega)
        have R41 := hr2.u es12 (by decide)
        refine x_aload_n hx hb hl 0 rfl dX5_readParts_44 rfl ?_
        refine x_get (j := 1) (v := .ref (h0 + 118)) hx hb hown hT hE hW cls_X5 (Or.inl (by decide)) (so_117 h0 g _) (by decide) rfl wq294 dX5_readParts_45 ?_
        refine x_iconst hx hb dX5_readParts_48 ?_
        refine x_iconst hx hb dX5_readParts_49 ?_
        refine x_goi (x_runVN (As := [.int (xJ 5), .int (xJ 0)]) hx hb hml hown hT hE hW hl.1 (Or.inl (by decide)) (so_118 h0 g _) rfl cf_X4_put wq672 wq21 wn670 (c_X4_putK l D g T h0 s12 hW.2.1 5 (by decide) 0 (by decide) q13) ⟨rfl, rfl, ⟨by decide, by decide⟩, ⟨by decide, by decide⟩⟩ rfl rfl (Nat.le_of_ble_eq_true rfl) dX5_readParts_50) hW (fun x18 s19 H locs rx18 hp20 hW => ?_)
        obtain ⟨fs19, hp20⟩ := hp20
        have hF21 := hF17.call fs19 (fun k h => by omega)
        have q22 : s19 1 1 = s0 1 1 := (congrFun (fs19 _ (by omega)) _).trans q14
        have q23 : s19 1 2 = s0 1 2 := (congrFun (fs19 _ (by omega)) _).trans q15
        have q24 : s19 1 3 = (x11 + 1) := (congrFun (fs19 _ (by omega)) _).trans q16
        have ghp20 := hp20.2
        have H50 := ghp20 (by have y := R41.b; omega)
        have O50 : zCX f9 n9 a9 Z true (s19 1 3) (c2 + 1) (xud C2 c2 12582912) ((12582912 + c2) :: st) := hz2.or_ ht (by omega) (by omega) rfl rfl rfl
        have R50 : zRD s19 s9 a9 (c2 + 1) (xud C2 c2 12582912) O9 V9 := R41.put H50.2.1 H50.2.2.1 H50.2.2.2 (by decide) (zwm_0 _).2.2 rfl rfl
        have L50 : x18 = c2 + s9 := by have y := R41.b; omega
        refine lv_istore_n (lv' := [(3, .int (xJ x18)), (0, .ref (h0 + 117)), (1, .int (xJ q)), (2, .int (xJ i2_12))]) hx hb dX5_readParts_53 rfl hl (by decide) rfl (fun ls hl => ?_)
        refine x_aload_n hx hb hl 1 rfl dX5_readParts_54 rfl ?_
        refine x_iload_n hx hb hl 2 rfl dX5_readParts_55 rfl ?_
        refine x_goi (x_runV (As := [.int (xJ q)]) hx hb hml hown hT hE hW hl.1 (Or.inl (by decide)) (so_117 h0 g _) rfl cf_X5_readPieces wq684 wq23 wq682 (c_X5_readPiecesK1 l D g T h0 s19 hW.2.1 q rq f9 n9 Z (c2 + 1) (xud C2 c2 12582912) ((12582912 + c2) :: st) s9 a9 O9 V9 (by omega) (by first | exact hf | exact ⟨(hF21 2 (by omega)).trans hf.1, by omega⟩) (O50) (R50) (by rw [zqn_z (by omega)]; omega) (by show (12582912 : Int) ≤ 12582912 + c2; omega) hp20.1.1) ⟨rfl, rfl, ⟨by decide, by decide⟩, ⟨by decide, by decide⟩⟩ rfl rfl (Nat.le_of_ble_eq_true rfl) dX5_readParts_56) hW (fun x25 s26 H locs rx25 hp27 hW => ?_)
        obtain ⟨fs26, hp27⟩ := hp27
        have hF28 := hF21.call fs26 (fun k h => by omega)
        have ghp27 := hp27.2
        have H56 := ghp27
        refine x_if_ne (tgt := 64) hx hb rx25 dX5_readParts_59 (by decide) (fun c29 => ?_) (fun c29 => ?_)
        · skip
          refine x_aload_n hx hb hl 1 rfl dX5_readParts_64 rfl ?_
          refine x_get (j := 1) (v := .ref (h0 + 118)) hx hb hown hT hE hW cls_X5 (Or.inl (by decide)) (so_117 h0 g _) (by decide) rfl wq294 dX5_readParts_65 ?_
          obtain ⟨c3, C3, hz3, hr3⟩ := (H56.resolve_right (fun q => by omega)).2.2.2
          have w3 := hz3.b
          have y3 := hr3.b
          have s3 := hz3.sh.1
          refine x_iload_n hx hb hl 0 rfl dX5_readParts_68 rfl ?_
          refine x_gov (x_runVN (As := [.int (xJ x18)]) hx hb hml hown hT hE hW hl.1 (Or.inl (by decide)) (so_118 h0 g _) rfl cf_X4_landSkip wq692 wq25 wn690 (c_X4_landSkipK l D g T h0 s26 hW.2.1 x18 rx18 (by omega) hp27.1.1) ⟨rfl, rfl, ⟨by decide, by decide⟩, ⟨by decide, by decide⟩⟩ rfl rfl (Nat.le_of_ble_eq_true rfl) dX5_readParts_69) hW (fun s31 H locs hp32 hW => ?_)
          obtain ⟨fs31, hp32⟩ := hp32
          have hF33 := hF28.call fs31 (fun k h => by omega)
          have q34 : s31 1 1 = s0 1 1 := (congrFun (fs31 _ (by omega)) _).trans (hp27.1.2.1.trans q22)
          have q35 : s31 1 2 = s0 1 2 := (congrFun (fs31 _ (by omega)) _).trans (hp27.1.2.2.1.trans q23)
          have ghp32 := hp32.2
          have H69 := ghp32
          have Y69 : s31 1 3 = s26 1 3 := congrFun (fs31 1 (by omega)) 3
          have X69 : ∃ c2 C2, zCX f9 n9 a9 Z false (s31 1 3) c2 C2 st ∧ zRD s31 s9 a9 c2 C2 O9 V9 := ⟨c3, zland C3 (12582912 + c2) c3, by rw [show s31 1 3 = s26 1 3 from congrFun (fs31 1 (by omega)) 3]; exact hz3.landP (by omega) (by omega) rfl, hr3.land (congrFun (fs31 118 (by omega)) 2) (fs31 119 (by omega)) H69 (by omega) (by omega) (by omega) (by omega) (by omega)⟩
          refine x_iinc (lv' := [(2, .int (xJ (i2_12 + 1))), (3, .int (xJ x18)), (0, .ref (h0 + 117)), (1, .int (xJ q))]) hx hb hl 3 rfl dX5_readParts_72 (by decide) rfl (fun ls hl => ?_)
          refine lv_goto (tgt := 12) hx hb dX5_readParts_75 (by decide) ?_
          exact ih12 (i2_12 + 1) s31 H locs ls (by omega) hF33 hp32.1.1 q34 q35 (by omega) (X69) (by rw [Y69]; exact (H56.resolve_right (fun q => by omega)).2.2.1) (by omega) hW (lv_sub hl [2, 3, 0] rfl)
        refine x_iconst hx hb dX5_readParts_62 ?_
        rw [eQ]
        exact x_zret hx hb hr hlk hW (by omega) ⟨hF28, ⟨hp27.1.1, (hp27.1.2.1.trans q22), (hp27.1.2.2.1.trans q23), trivial⟩, H56.elim (fun q => absurd q.1 (by omega)) (fun q => Or.inr ⟨by omega, q.2⟩)⟩ dX5_readParts_63
    exact L12 ((300 - 0 : Int).toNat + 1) 0 s2 H locs ls (by decide) hF4 hp3.1.1 (hp3.1.2.1.trans k1_1) (hp3.1.2.2.1.trans k1_2) (by omega) ((H2.resolve_right (fun q => by omega)).2.2.2) ((H2.resolve_right (fun q => by omega)).2.2.1) (Nat.lt_succ_self _) hW (lv_sub hl [1, 2, 0] rfl)
  refine x_iconst hx hb dX5_readParts_8 ?_
  rw [eQ]
  exact x_zret hx hb hr hlk hW (by omega) ⟨hF4, ⟨hp3.1.1, (hp3.1.2.1.trans k1_1), (hp3.1.2.2.1.trans k1_2), trivial⟩, H2.elim (fun q => absurd q.1 (by omega)) (fun q => Or.inr ⟨by omega, q.2⟩)⟩ dX5_readParts_9

