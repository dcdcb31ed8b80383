set_option maxHeartbeats 4000000 in
set_option maxRecDepth 100000 in
theorem c_X5_readClauseK (l : Launch) (D : va_G) (g : xG) (T : Nat × Nat × Nat) (h0 : Nat) (s0 : xS) (hσ : xRR s0) (x : Int) (rx : xR x) (i : Int) (ri : xR i) (f9 : Int → Int) (n9 : Int) (Z : zLT) (c9 : Int) (C9 : Int → Int) (L9 : Int → Int) (A9 : Int → Int) (B9 : Int → Int) (T9 : Int → Int) (hf : s0 2 = f9 ∧ s0 1 2 = n9) (hz : zLX f9 n9 Z true i (s0 1 3 - 1) c9 C9 L9 A9 B9 T9) (hxz : x = zch f9 n9 (s0 1 3 - 1) ∧ zkl x ≠ 0) (hi : 0 ≤ i ∧ i < 16) (hu : s0 118 2 = c9 + 2 * i) (hk : zKR (s0 119) (s0 120) (s0 121) (s0 122) (s0 123) C9 L9 A9 B9 T9 i c9) (p0 : IC s0) : Met l yX5_readClause (xws yX5_readClause cX5_readClause 3 (some .boolean)) { frames := 24, cells := 0, slots := 0, locals := 551 } (xP [.ref (h0 + 117), .int (xJ x), .int (xJ i)] D g T h0 s0) (xQi D g h0 (fun r τ => xFr (fun k => k = 1 ∨ k = 118 ∨ k = 119 ∨ k = 120 ∨ k = 121 ∨ k = 122 ∨ k = 123) s0 τ ∧ (((IC τ) ∧ (τ 1 1 = s0 1 1) ∧ (τ 1 2 = s0 1 2) ∧ True) ∧ ((r = 1 ∧ s0 1 3 ≤ τ 1 3 ∧ ∃ c2 C2 L2 A2 B2 T2, zLX f9 n9 Z false (i + 1) (τ 1 3) c2 C2 L2 A2 B2 T2 ∧ zKR (τ 119) (τ 120) (τ 121) (τ 122) (τ 123) C2 L2 A2 B2 T2 (i + 1) c2 ∧ τ 118 2 = c2 + 2 * (i + 1)) ∨ (r = 0 ∧ Z.1 ≠ 0 ∧ τ 1 4 = Z.1))))) 0 0 (xA h0) := by
  refine x_met hσ (by decide) (Nat.le_of_ble_eq_true rfl) ?_
  intro p e s m args below meth c hx hb hr hml hown hT hlk hnm hE hW ls hl
  have hl : lv_has ls 3 [(0, .ref (h0 + 117)), (1, .int (xJ x)), (2, .int (xJ i))] := hl
  obtain ⟨Q, eQ⟩ : ∃ Q, Q = MQ below (xQi D g h0 (fun r τ => xFr (fun k => k = 1 ∨ k = 118 ∨ k = 119 ∨ k = 120 ∨ k = 121 ∨ k = 122 ∨ k = 123) s0 τ ∧ (((IC τ) ∧ (τ 1 1 = s0 1 1) ∧ (τ 1 2 = s0 1 2) ∧ True) ∧ ((r = 1 ∧ s0 1 3 ≤ τ 1 3 ∧ ∃ c2 C2 L2 A2 B2 T2, zLX f9 n9 Z false (i + 1) (τ 1 3) c2 C2 L2 A2 B2 T2 ∧ zKR (τ 119) (τ 120) (τ 121) (τ 122) (τ 123) C2 L2 A2 B2 T2 (i + 1) c2 ∧ τ 118 2 = c2 + 2 * (i + 1)) ∨ (r = 0 ∧ Z.1 ≠ 0 ∧ τ 1 4 = Z.1))))) args s 0 0 (xA h0) := ⟨_, rfl⟩
  rw [← eQ]
  generalize hHe : ([] : List Loc) = locs at hW ⊢
  obtain ⟨H, eH⟩ : ∃ H, H = s.heap := ⟨_, rfl⟩
  rw [← eH] at hW ⊢
  have hF : xFr (fun k => k = 1 ∨ k = 118 ∨ k = 119 ∨ k = 120 ∨ k = 121 ∨ k = 122 ∨ k = 123) s0 s0 := xFr.rf
  have k1_1 : s0 1 1 = s0 1 1 := rfl
  have k1_2 : s0 1 2 = s0 1 2 := rfl
  have k1_3 : s0 1 3 = s0 1 3 := rfl
  have k118_2 : s0 118 2 = s0 118 2 := rfl
  have hf2 := hf.2
  have hu2 := hu
  have hb9 := hz.b
  have hzk := zkl_cs x
  have hl9 := zch_lt (f := f9) (n := n9) (p := (s0 1 3 - 1)) (by omega)
  refine x_iload_n hx hb hl 2 rfl dX5_readClause_0 rfl ?_
  refine x_if_lt (tgt := 10) hx hb ri dX5_readClause_1 (by decide) (fun c1 => False.elim (by omega)) (fun c1 => ?_)
  refine x_iload_n hx hb hl 2 rfl dX5_readClause_4 rfl ?_
  refine x_bipush hx hb dX5_readClause_5 (by decide) ?_
  refine x_icmp_lt (tgt := 12) hx hb ri (by decide) dX5_readClause_7 (by decide) (fun c2 => ?_) (fun c2 => False.elim (by omega))
  refine x_aload_n hx hb hl 0 rfl dX5_readClause_12 rfl ?_
  refine x_get (j := 1) (v := .ref (h0 + 118)) hx hb hown hT hE hW cls_X5 (Or.inl (by decide)) (so_117 h0 g _) (by decide) rfl wq294 dX5_readClause_13 ?_
  refine x_getN (j := 3) (v := .ref (h0 + 121)) hx hb hown hT hE hW cls_X4 (Or.inl (by decide)) (so_118 h0 g _) (by decide) rfl wn256 dX5_readClause_16 ?_
  refine x_iload_n hx hb hl 2 rfl dX5_readClause_19 rfl ?_
  refine x_iload_n hx hb hl 1 rfl dX5_readClause_20 rfl ?_
  refine x_iast hx hb hE hW (by decide) (fun σ => sa_121 h0 g σ) (by omega) (by decide) rx dX5_readClause_21 (fun H locs s3 es3 hW => ?_)
  have q4 : IC s3 := by rw [es3]; exact IC_o (by decide) p0
  have q5 : s3 1 1 = s0 1 1 := (show s3 1 1 = s0 1 1 from by rw [es3, xU_k _ _ _ (by omega)]).trans k1_1
  have q6 : s3 1 2 = s0 1 2 := (show s3 1 2 = s0 1 2 from by rw [es3, xU_k _ _ _ (by omega)]).trans k1_2
  have q7 : s3 1 3 = s0 1 3 := (show s3 1 3 = s0 1 3 from by rw [es3, xU_k _ _ _ (by omega)]).trans k1_3
  have q8 : s3 118 2 = s0 118 2 := (show s3 118 2 = s0 118 2 from by rw [es3, xU_k _ _ _ (by omega)]).trans k118_2
  have hF9 := hF.put es3 (by omega)
  have E21 := es3
  refine x_aload_n hx hb hl 0 rfl dX5_readClause_22 rfl ?_
  refine x_get (j := 1) (v := .ref (h0 + 118)) hx hb hown hT hE hW cls_X5 (Or.inl (by decide)) (so_117 h0 g _) (by decide) rfl wq294 dX5_readClause_23 ?_
  refine x_getN (j := 4) (v := .ref (h0 + 122)) hx hb hown hT hE hW cls_X4 (Or.inl (by decide)) (so_118 h0 g _) (by decide) rfl wn258 dX5_readClause_26 ?_
  refine x_iload_n hx hb hl 2 rfl dX5_readClause_29 rfl ?_
  refine x_aload_n hx hb hl 0 rfl dX5_readClause_30 rfl ?_
  refine x_get (j := 1) (v := .ref (h0 + 118)) hx hb hown hT hE hW cls_X5 (Or.inl (by decide)) (so_117 h0 g _) (by decide) rfl wq294 dX5_readClause_31 ?_
  refine x_getN (j := 2) (v := .int (xJ (s3 118 2))) hx hb hown hT hE hW cls_X4 (Or.inl (by decide)) (so_118 h0 g _) (by decide) rfl wn254 dX5_readClause_34 ?_
  refine x_rd hW (fun x10 ex10 rx10 => ?_)
  have bx10 : 0 ≤ x10 ∧ x10 ≤ 300 := by rw [ex10]; exact (IC.l2 q4).1
  have fx10 : x10 = s0 118 2 := ex10.trans q8
  have V34 : x10 = c9 + 2 * i := by rw [ex10, E21, xU_k _ _ _ (by omega)]; omega
  refine x_iast hx hb hE hW (by decide) (fun σ => sa_122 h0 g σ) (by omega) (by decide) rx10 dX5_readClause_37 (fun H locs s11 es11 hW => ?_)
  have q12 : IC s11 := by rw [es11]; exact IC_o (by decide) q4
  have q13 : s11 1 1 = s0 1 1 := (show s11 1 1 = s3 1 1 from by rw [es11, xU_k _ _ _ (by omega)]).trans q5
  have q14 : s11 1 2 = s0 1 2 := (show s11 1 2 = s3 1 2 from by rw [es11, xU_k _ _ _ (by omega)]).trans q6
  have q15 : s11 1 3 = s0 1 3 := (show s11 1 3 = s3 1 3 from by rw [es11, xU_k _ _ _ (by omega)]).trans q7
  have q16 : s11 118 2 = s0 118 2 := (show s11 118 2 = s3 118 2 from by rw [es11, xU_k _ _ _ (by omega)]).trans q8
  have hF17 := hF9.put es11 (by omega)
  have E37 := es11
  have Q37 : s11 119 = s0 119 ∧ s11 120 = s0 120 ∧ s11 121 = xud (s0 121) i x ∧ s11 122 = xud (s0 122) i (c9 + 2 * i) ∧ s11 123 = s0 123 := ⟨by rw [E37, xU_k _ _ _ (by omega), E21, xU_k _ _ _ (by omega)], by rw [E37, xU_k _ _ _ (by omega), E21, xU_k _ _ _ (by omega)], by rw [E37, xU_k _ _ _ (by omega), E21, xU_xud], by rw [E37, xU_xud, E21, xU_k _ _ _ (by omega), ← V34], by rw [E37, xU_k _ _ _ (by omega), E21, xU_k _ _ _ (by omega)]⟩
  refine x_iload_n hx hb hl 1 rfl dX5_readClause_38 rfl ?_
  refine x_bipush hx hb dX5_readClause_39 (by decide) ?_
  have J54 : ∀ (s_54 : xS) (H : Heap) (locs : List Loc) (ls : Array Slot), (xFr (fun k => k = 1 ∨ k = 118 ∨ k = 119 ∨ k = 120 ∨ k = 121 ∨ k = 122 ∨ k = 123) s0 s_54) → (IC s_54) → (s_54 1 1 = s0 1 1) → (s_54 1 2 = s0 1 2) → (∃ c2 C2, zc1 f9 n9 (s0 1 3 - 1) c9 C9 = (0, s_54 1 3, c2, C2) ∧ zRD s_54 (2 * i) c9 c2 C2 (s0 119) (s0 120) ∧ (c9 ≤ c2 ∧ c2 + 1 ≤ s_54 1 3 ∧ s_54 1 3 ≤ n9)) → (s_54 121 = xud (s0 121) i x ∧ s_54 122 = xud (s0 122) i (c9 + 2 * i) ∧ s_54 123 = s0 123) → (s0 1 3 ≤ s_54 1 3) → xW D g h0 s H locs s_54 → lv_has ls 3 [(0, .ref (h0 + 117)), (2, .int (xJ i))] → W p l e { frames := 24, cells := 0, slots := 0, locals := 551 } s m args below meth c H locs 0 0 Q (F0 m 54 ls []) := by
    intro s_54 H locs ls hF_54 q54_0 q54_1 q54_2 v54_0 v54_1 v54_2 hW hl
    refine x_aload_n hx hb hl 0 rfl dX5_readClause_54 rfl ?_
    obtain ⟨c3, C3, e3, r3, b3⟩ := v54_0
    obtain ⟨p3, ep3⟩ : ∃ p : Int, p = s_54 1 3 := ⟨_, rfl⟩
    rw [← ep3] at e3 b3
    have y3 := r3.b
    refine x_get (j := 1) (v := .ref (h0 + 118)) hx hb hown hT hE hW cls_X5 (Or.inl (by decide)) (so_117 h0 g _) (by decide) rfl wq294 dX5_readClause_55 ?_
    refine x_iconst hx hb dX5_readClause_58 ?_
    refine x_iconst hx hb dX5_readClause_59 ?_
    refine x_goi (x_runVN (As := [.int (xJ 0), .int (xJ 0)]) hx hb hml hown hT hE hW hl.1 (Or.inl (by decide)) (so_118 h0 g _) rfl cf_X4_put wq672 wq21 wn670 (c_X4_putK l D g T h0 s_54 hW.2.1 0 (by decide) 0 (by decide) q54_0) ⟨rfl, rfl, ⟨by decide, by decide⟩, ⟨by decide, by decide⟩⟩ rfl rfl (Nat.le_of_ble_eq_true rfl) dX5_readClause_60) hW (fun x18 s19 H locs rx18 hp20 hW => ?_)
    obtain ⟨fs19, hp20⟩ := hp20
    have hF21 := hF_54.call fs19 (fun k h => by omega)
    have q22 : s19 1 1 = s0 1 1 := (congrFun (fs19 _ (by omega)) _).trans q54_1
    have q23 : s19 1 2 = s0 1 2 := (congrFun (fs19 _ (by omega)) _).trans q54_2
    have ghp20 := hp20.2
    have H60 := ghp20 (by omega)
    have F60 := fs19
    have P60 : s19 1 3 = p3 := (congrFun (fs19 1 (by omega)) 3).trans ep3.symm
    refine lv_pop hx hb dX5_readClause_63 rfl ?_
    refine x_aload_n hx hb hl 0 rfl dX5_readClause_64 rfl ?_
    refine x_get (j := 1) (v := .ref (h0 + 118)) hx hb hown hT hE hW cls_X5 (Or.inl (by decide)) (so_117 h0 g _) (by decide) rfl wq294 dX5_readClause_65 ?_
    refine x_getN (j := 5) (v := .ref (h0 + 123)) hx hb hown hT hE hW cls_X4 (Or.inl (by decide)) (so_118 h0 g _) (by decide) rfl wn260 dX5_readClause_68 ?_
    refine x_iload_n hx hb hl 1 rfl dX5_readClause_71 rfl ?_
    refine x_aload_n hx hb hl 0 rfl dX5_readClause_72 rfl ?_
    refine x_get (j := 1) (v := .ref (h0 + 118)) hx hb hown hT hE hW cls_X5 (Or.inl (by decide)) (so_117 h0 g _) (by decide) rfl wq294 dX5_readClause_73 ?_
    refine x_getN (j := 2) (v := .int (xJ (s19 118 2))) hx hb hown hT hE hW cls_X4 (Or.inl (by decide)) (so_118 h0 g _) (by decide) rfl wn254 dX5_readClause_76 ?_
    refine x_rd hW (fun x24 ex24 rx24 => ?_)
    have bx24 : 0 ≤ x24 ∧ x24 ≤ 300 := by rw [ex24]; exact (IC.l2 hp20.1.1).1
    have q25 : s19 118 2 = x24 := ex24.symm
    have V76 : x24 = c3 + 2 * i + 1 := by rw [ex24]; omega
    refine x_iast hx hb hE hW (by decide) (fun σ => sa_123 h0 g σ) (by omega) (by decide) rx24 dX5_readClause_79 (fun H locs s26 es26 hW => ?_)
    have q27 : s26 1 1 = s0 1 1 := (show s26 1 1 = s19 1 1 from by rw [es26, xU_k _ _ _ (by omega)]).trans q22
    have q28 : s26 1 2 = s0 1 2 := (show s26 1 2 = s19 1 2 from by rw [es26, xU_k _ _ _ (by omega)]).trans q23
    have q29 : IC s26 := by rw [es26]; exact IC_o (by decide) hp20.1.1
    have q30 : s26 118 2 = x24 := (show s26 118 2 = s19 118 2 from by rw [es26, xU_k _ _ _ (by omega)]).trans q25
    have hF31 := hF21.put es26 (by omega)
    have E79 := es26
    obtain ⟨O79, eO79⟩ : ∃ K, K = s26 119 := ⟨_, rfl⟩
    obtain ⟨V79, eV79⟩ : ∃ K, K = s26 120 := ⟨_, rfl⟩
    have G79 : s26 2 = f9 ∧ s26 1 2 = n9 ∧ s26 1 3 = p3 := ⟨(hF31 2 (by omega)).trans hf.1, by omega, by rw [E79, xU_k _ _ _ (by omega)]; exact P60⟩
    have Q79 : O79 = xud (s_54 119) (c3 + 2 * i) 0 ∧ V79 = xud (s_54 120) (c3 + 2 * i) 0 ∧ s26 121 = xud (s0 121) i x ∧ s26 122 = xud (s0 122) i (c9 + 2 * i) ∧ s26 123 = xud (s0 123) i (c3 + 2 * i + 1) ∧ s26 118 2 = c3 + (2 * i + 1) := ⟨by rw [eO79, E79, xU_k _ _ _ (by omega), H60.2.2.1, y3.1], by rw [eV79, E79, xU_k _ _ _ (by omega), H60.2.2.2, y3.1], by rw [E79, xU_k _ _ _ (by omega), F60 121 (by omega)]; exact v54_1.1, by rw [E79, xU_k _ _ _ (by omega), F60 122 (by omega)]; exact v54_1.2.1, by rw [E79, xU_xud, F60 123 (by omega), v54_1.2.2, V76], by rw [E79, xU_k _ _ _ (by omega)]; omega⟩
    refine x_aload_n hx hb hl 0 rfl dX5_readClause_80 rfl ?_
    refine x_get (j := 0) (v := .ref (h0 + 1)) hx hb hown hT hE hW cls_X5 (Or.inl (by decide)) (so_117 h0 g _) (by decide) rfl wq293 dX5_readClause_81 ?_
    refine x_bipush hx hb dX5_readClause_84 (by decide) ?_
    refine x_goi (x_runVN (As := [.int (xJ 40)]) hx hb hml hown hT hE hW hl.1 (Or.inl (by decide)) (so_1 h0 g _) rfl cf_X8_passes wq598 wq6 wn674 (c_X8_passesM l D g T h0 s26 hW.2.1 40 (by decide) (by omega) (by omega) q29) ⟨rfl, rfl, ⟨by decide, by decide⟩, ⟨by decide, by decide⟩⟩ rfl rfl (Nat.le_of_ble_eq_true rfl) dX5_readClause_86) hW (fun x32 s33 H locs rx32 hp34 hW => ?_)
    obtain ⟨fs33, hp34⟩ := hp34
    have hF35 := hF31.call fs33 (fun k h => by omega)
    have q36 : s33 118 2 = x24 := (congrFun (fs33 _ (by omega)) _).trans q30
    have ghp34 := hp34.2
    have H86 := ghp34
    rw [G79.1, G79.2.1, G79.2.2] at H86
    have Q86 : s33 119 = O79 ∧ s33 120 = V79 ∧ s33 121 = xud (s0 121) i x ∧ s33 122 = xud (s0 122) i (c9 + 2 * i) ∧ s33 123 = xud (s0 123) i (c3 + 2 * i + 1) ∧ s33 118 2 = c3 + (2 * i + 1) := by rw [fs33 118 (by omega), fs33 119 (by omega), fs33 120 (by omega), fs33 121 (by omega), fs33 122 (by omega), fs33 123 (by omega)]; exact ⟨eO79.symm, eV79.symm, Q79.2.2⟩
    have q86 := Q86.2.2.2.2.2
    refine x_if_eq (tgt := 112) hx hb rx32 dX5_readClause_89 (by decide) (fun c37 => ?_) (fun c37 => ?_)
    · skip
      refine x_iconst hx hb dX5_readClause_112 ?_
      rw [eQ]
      exact x_zret hx hb hr hlk hW (by omega) ⟨hF35, ⟨hp34.1.1, (hp34.1.2.1.trans q27), (hp34.1.2.2.1.trans q28), trivial⟩, (by
    first
      | (have z := hz.e2 (by rw [← hxz.1]; exact hxz.2) hi.2 e3 (by unfold zc2; rw [if_pos (by omega)]; show (-1000 - p3 : Int) ≠ 0; omega); unfold zc2 at z; rw [if_pos (by omega)] at z; have z : Z.1 = -1000 - p3 := z; exact Or.inr ⟨by omega, by omega, by omega⟩)
      | (have e := (H94 ()).elim (fun q => absurd q.1 (by omega)) (fun q => q); have z := hz.e2 (by rw [← hxz.1]; exact hxz.2) hi.2 e3 (by rw [z94]; exact e.2.1); rw [z94] at z; rw [z]; exact Or.inr ⟨by omega, e.2.1, e.2.2⟩)
      | (have e := zCX.bad _ _ _ hz4 (List.cons_ne_nil _ _) h94.1 h94.2 (by omega); have z := hz.e2 (by rw [← hxz.1]; exact hxz.2) hi.2 e3 (by rw [z94]; omega); rw [z94] at z; exact Or.inr ⟨by omega, by omega, by omega⟩))⟩ dX5_readClause_113
    refine x_aload_n hx hb hl 0 rfl dX5_readClause_92 rfl ?_
    refine x_iconst hx hb dX5_readClause_93 ?_
    have l93 := zch_lt (f := f9) (n := n9) (p := p3) (by omega)
    refine x_goi (x_runV (As := [.int (xJ 1)]) hx hb hml hown hT hE hW hl.1 (Or.inl (by decide)) (so_117 h0 g _) rfl cf_X5_readParts wq680 wq22 wq678 (c_X5_readPartsK1 l D g T h0 s33 hW.2.1 1 (by decide) f9 n9 (zC0 f9 n9 (p3 + 1) c3 C3) c3 C3 ([13631488]) (2 * i + 1) c3 O79 V79 (by omega) (by first | exact hf | exact ⟨(hF35 2 (by omega)).trans hf.1, by omega⟩) (by rw [show s33 1 3 = p3 + 1 from by omega]; exact zCX.new (by omega)) (zRD.new (by omega) (by omega) (by omega) Q86.1 Q86.2.1) (by decide) ((by decide : (13631488 : Int) ≤ 13631488)) hp34.1.1) ⟨rfl, rfl, ⟨by decide, by decide⟩, ⟨by decide, by decide⟩⟩ rfl rfl (Nat.le_of_ble_eq_true rfl) dX5_readClause_94) hW (fun x38 s39 H locs rx38 hp40 hW => ?_)
    obtain ⟨fs39, hp40⟩ := hp40
    have hF41 := hF35.call fs39 (fun k h => by omega)
    have ghp40 := hp40.2
    have H94 := fun (_ : Unit) => ghp40
    clear ghp40
    replace hp40 := And.intro hp40.1 trivial
    have Q94 : s39 121 = xud (s0 121) i x ∧ s39 122 = xud (s0 122) i (c9 + 2 * i) ∧ s39 123 = xud (s0 123) i (c3 + 2 * i + 1) := by rw [fs39 121 (by omega), fs39 122 (by omega), fs39 123 (by omega)]; exact ⟨Q86.2.2.1, Q86.2.2.2.1, Q86.2.2.2.2.1⟩
    have G94 : s39 2 = f9 ∧ s39 1 2 = n9 := ⟨(hF41 2 (by omega)).trans hf.1, by omega⟩
    obtain ⟨p94, ep94⟩ : ∃ p : Int, p = s39 1 3 := ⟨_, rfl⟩
    have z94 : zc2 f9 n9 p3 c3 C3 = (zC0 f9 n9 (p3 + 1) c3 C3) := by unfold zc2; rw [if_neg (by omega)]
    refine x_if_eq (tgt := 112) hx hb rx38 dX5_readClause_97 (by decide) (fun c42 => ?_) (fun c42 => ?_)
    · skip
      refine x_iconst hx hb dX5_readClause_112 ?_
      rw [eQ]
      exact x_zret hx hb hr hlk hW (by omega) ⟨hF41, ⟨hp40.1.1, (hp40.1.2.1.trans (hp34.1.2.1.trans q27)), (hp40.1.2.2.1.trans (hp34.1.2.2.1.trans q28)), trivial⟩, (by
    first
      | (have z := hz.e2 (by rw [← hxz.1]; exact hxz.2) hi.2 e3 (by unfold zc2; rw [if_pos (by omega)]; show (-1000 - p3 : Int) ≠ 0; omega); unfold zc2 at z; rw [if_pos (by omega)] at z; have z : Z.1 = -1000 - p3 := z; exact Or.inr ⟨by omega, by omega, by omega⟩)
      | (have e := (H94 ()).elim (fun q => absurd q.1 (by omega)) (fun q => q); have z := hz.e2 (by rw [← hxz.1]; exact hxz.2) hi.2 e3 (by rw [z94]; exact e.2.1); rw [z94] at z; rw [z]; exact Or.inr ⟨by omega, e.2.1, e.2.2⟩)
      | (have e := zCX.bad _ _ _ hz4 (List.cons_ne_nil _ _) h94.1 h94.2 (by omega); have z := hz.e2 (by rw [← hxz.1]; exact hxz.2) hi.2 e3 (by rw [z94]; omega); rw [z94] at z; exact Or.inr ⟨by omega, by omega, by omega⟩))⟩ dX5_readClause_113
    refine x_aload_n hx hb hl 0 rfl dX5_readClause_100 rfl ?_
    obtain ⟨c4, C4, hz4, hr4⟩ := ((H94 ()).resolve_right (fun q => by omega)).2.2.2.2
    have h94 : _ ∧ _ := ⟨((H94 ()).resolve_right (fun q => by omega)).2.2.1, ((H94 ()).resolve_right (fun q => by omega)).2.2.2.1⟩
    have v94 := ((H94 ()).resolve_right (fun q => by omega)).2.1
    have y4 := hr4.b
    have w4 := hz4.b
    refine x_get (j := 0) (v := .ref (h0 + 1)) hx hb hown hT hE hW cls_X5 (Or.inl (by decide)) (so_117 h0 g _) (by decide) rfl wq293 dX5_readClause_101 ?_
    refine x_bipush hx hb dX5_readClause_104 (by decide) ?_
    refine x_goi (x_runVN (As := [.int (xJ 41)]) hx hb hml hown hT hE hW hl.1 (Or.inl (by decide)) (so_1 h0 g _) rfl cf_X8_passes wq598 wq6 wn674 (c_X8_passesM l D g T h0 s39 hW.2.1 41 (by decide) (by omega) (by omega) hp40.1.1) ⟨rfl, rfl, ⟨by decide, by decide⟩, ⟨by decide, by decide⟩⟩ rfl rfl (Nat.le_of_ble_eq_true rfl) dX5_readClause_106) hW (fun x43 s44 H locs rx43 hp45 hW => ?_)
    obtain ⟨fs44, hp45⟩ := hp45
    have hF46 := hF41.call fs44 (fun k h => by omega)
    have ghp45 := hp45.2
    have H106 := ghp45
    rw [G94.1, G94.2] at H106
    have hr5 := hr4.f (congrFun (fs44 118 (by omega)) 2) (fs44 119 (by omega)) (fs44 120 (by omega))
    have Q106 : s44 121 = xud (s0 121) i x ∧ s44 122 = xud (s0 122) i (c9 + 2 * i) ∧ s44 123 = xud (s0 123) i (c3 + 2 * i + 1) := by rw [fs44 121 (by omega), fs44 122 (by omega), fs44 123 (by omega)]; exact Q94
    refine x_if_ne (tgt := 114) hx hb rx43 dX5_readClause_109 (by decide) (fun c47 => ?_) (fun c47 => ?_)
    · skip
      refine x_aload_n hx hb hl 0 rfl dX5_readClause_114 rfl ?_
      refine x_get (j := 1) (v := .ref (h0 + 118)) hx hb hown hT hE hW cls_X5 (Or.inl (by decide)) (so_117 h0 g _) (by decide) rfl wq294 dX5_readClause_115 ?_
      refine x_iconst hx hb dX5_readClause_118 ?_
      refine x_iconst hx hb dX5_readClause_119 ?_
      refine x_goi (x_runVN (As := [.int (xJ 0), .int (xJ 0)]) hx hb hml hown hT hE hW hl.1 (Or.inl (by decide)) (so_118 h0 g _) rfl cf_X4_put wq672 wq21 wn670 (c_X4_putK l D g T h0 s44 hW.2.1 0 (by decide) 0 (by decide) hp45.1.1) ⟨rfl, rfl, ⟨by decide, by decide⟩, ⟨by decide, by decide⟩⟩ rfl rfl (Nat.le_of_ble_eq_true rfl) dX5_readClause_120) hW (fun x48 s49 H locs rx48 hp50 hW => ?_)
      obtain ⟨fs49, hp50⟩ := hp50
      have hF51 := hF46.call fs49 (fun k h => by omega)
      have q52 : s49 1 1 = s0 1 1 := (congrFun (fs49 _ (by omega)) _).trans (hp45.1.2.1.trans (hp40.1.2.1.trans (hp34.1.2.1.trans q27)))
      have q53 : s49 1 2 = s0 1 2 := (congrFun (fs49 _ (by omega)) _).trans (hp45.1.2.2.1.trans (hp40.1.2.2.1.trans (hp34.1.2.2.1.trans q28)))
      have ghp50 := hp50.2
      have H120 := ghp50 (by have y := hr5.b; omega)
      have P120 : s49 1 3 = s44 1 3 := congrFun (fs49 1 (by omega)) 3
      have Q120 : s49 121 = xud (s0 121) i x ∧ s49 122 = xud (s0 122) i (c9 + 2 * i) ∧ s49 123 = xud (s0 123) i (c3 + 2 * i + 1) := by rw [fs49 121 (by omega), fs49 122 (by omega), fs49 123 (by omega)]; exact Q106
      have y5 := hr5.b
      refine lv_pop hx hb dX5_readClause_123 rfl ?_
      refine x_iconst hx hb dX5_readClause_124 ?_
      rw [eQ]
      exact x_zret hx hb hr hlk hW (by omega) ⟨hF51, ⟨hp50.1.1, q52, q53, trivial⟩, by
    have e4 := (hz4.shut (by decide) (by omega) (p2 := p94 + 1) (by omega)).fin
    rw [← z94] at e4
    have K9 := zLK hz (by rw [← hxz.1]; exact hxz.2) hi.2 e3 e4 hk r3.2.1 r3.2.2 Q79.1 Q79.2.1 hr5.2.1 hr5.2.2 (H120.2.2.1.trans (by rw [y5.1])) (H120.2.2.2.trans (by rw [y5.1])) (Q120.1.trans (by rw [hxz.1])) Q120.2.1 Q120.2.2
    exact Or.inl ⟨by omega, by omega, c4, C4, _, _, _, _, by rw [show s49 1 3 = p94 + 1 from by omega]; exact K9.1, K9.2, by omega⟩⟩ dX5_readClause_125
    refine x_iconst hx hb dX5_readClause_112 ?_
    rw [eQ]
    exact x_zret hx hb hr hlk hW (by omega) ⟨hF46, ⟨hp45.1.1, (hp45.1.2.1.trans (hp40.1.2.1.trans (hp34.1.2.1.trans q27))), (hp45.1.2.2.1.trans (hp40.1.2.2.1.trans (hp34.1.2.2.1.trans q28))), trivial⟩, (by
    first
      | (have z := hz.e2 (by rw [← hxz.1]; exact hxz.2) hi.2 e3 (by unfold zc2; rw [if_pos (by omega)]; show (-1000 - p3 : Int) ≠ 0; omega); unfold zc2 at z; rw [if_pos (by omega)] at z; have z : Z.1 = -1000 - p3 := z; exact Or.inr ⟨by omega, by omega, by omega⟩)
      | (have e := (H94 ()).elim (fun q => absurd q.1 (by omega)) (fun q => q); have z := hz.e2 (by rw [← hxz.1]; exact hxz.2) hi.2 e3 (by rw [z94]; exact e.2.1); rw [z94] at z; rw [z]; exact Or.inr ⟨by omega, e.2.1, e.2.2⟩)
      | (have e := zCX.bad _ _ _ hz4 (List.cons_ne_nil _ _) h94.1 h94.2 (by omega); have z := hz.e2 (by rw [← hxz.1]; exact hxz.2) hi.2 e3 (by rw [z94]; omega); rw [z94] at z; exact Or.inr ⟨by omega, by omega, by omega⟩))⟩ dX5_readClause_113
  refine x_icmp_eq (tgt := 54) hx hb rx (by decide) dX5_readClause_41 (by decide) (fun c54 => ?_) (fun c54 => ?_)
  · skip
    exact J54 s11 H locs ls hF17 q12 q13 q14 (by first | exact ⟨c9, C9, by unfold zc1; rw [if_pos (by omega), show s11 1 3 = (s0 1 3 - 1) + 1 from by omega], zRD.new (by omega) (by omega) (by omega) Q37.1 Q37.2.1, by omega⟩ | (have q := (H46 ()).resolve_right (fun q => by omega); obtain ⟨c2, C2, hz2, hr2⟩ := q.2.2.2; have F2 := hz2.fin q.2.2.1; have y2 := hr2.b; have w2 := hz2.b; exact ⟨c2, C2, z46.trans F2, hr2, by omega⟩)) (by first | exact Q37.2.2 | exact ⟨(fs11 121 (by omega)).trans Q37.2.2.1, (fs11 122 (by omega)).trans Q37.2.2.2.1, (fs11 123 (by omega)).trans Q37.2.2.2.2⟩) (by first | omega | (have y := ((H46 ()).resolve_right (fun q => by omega)).2.1; omega)) hW (lv_sub hl [0, 2] rfl)
  refine x_aload_n hx hb hl 0 rfl dX5_readClause_44 rfl ?_
  refine x_iconst hx hb dX5_readClause_45 ?_
  refine x_goi (x_runV (As := [.int (xJ 0)]) hx hb hml hown hT hE hW hl.1 (Or.inl (by decide)) (so_117 h0 g _) rfl cf_X5_readSum wq652 wq16 wq650 (c_X5_readSumK0 l D g T h0 s11 hW.2.1 0 (by decide) f9 n9 0 1 c9 C9 (zE0 f9 n9 0 (s0 1 3) c9 C9) c9 C9 ([] : List Int) (2 * i) c9 (s0 119) (s0 120) (by omega) (by first | exact hf | exact ⟨(hF17 2 (by omega)).trans hf.1, by omega⟩) (by rw [show s11 1 3 = s0 1 3 from q15]; exact zEX.new (by omega)) (zRD.new (by omega) (by omega) (by omega) Q37.1 Q37.2.1) (by decide) (Or.inl (by decide)) q12) ⟨rfl, rfl, ⟨by decide, by decide⟩, ⟨by decide, by decide⟩⟩ rfl rfl (Nat.le_of_ble_eq_true rfl) dX5_readClause_46) hW (fun x55 s56 H locs rx55 hp57 hW => ?_)
  obtain ⟨fs56, hp57⟩ := hp57
  have hF58 := hF17.call fs56 (fun k h => by omega)
  have ghp57 := hp57.2
  have H46 := fun (_ : Unit) => ghp57
  clear ghp57
  replace hp57 := And.intro hp57.1 trivial
  have z46 : zc1 f9 n9 (s0 1 3 - 1) c9 C9 = (zE0 f9 n9 0 (s0 1 3) c9 C9) := by unfold zc1; rw [if_neg (by omega), show (s0 1 3 - 1) + 1 = s0 1 3 from by omega]
  refine x_if_ne (tgt := 54) hx hb rx55 dX5_readClause_49 (by decide) (fun c59 => ?_) (fun c59 => ?_)
  · skip
    exact J54 s56 H locs ls hF58 hp57.1.1 (hp57.1.2.1.trans q13) (hp57.1.2.2.1.trans q14) (by first | exact ⟨c9, C9, by unfold zc1; rw [if_pos (by omega), show s56 1 3 = (s0 1 3 - 1) + 1 from by omega], zRD.new (by omega) (by omega) (by omega) Q37.1 Q37.2.1, by omega⟩ | (have q := (H46 ()).resolve_right (fun q => by omega); obtain ⟨c2, C2, hz2, hr2⟩ := q.2.2.2; have F2 := hz2.fin q.2.2.1; have y2 := hr2.b; have w2 := hz2.b; exact ⟨c2, C2, z46.trans F2, hr2, by omega⟩)) (by first | exact Q37.2.2 | exact ⟨(fs56 121 (by omega)).trans Q37.2.2.1, (fs56 122 (by omega)).trans Q37.2.2.2.1, (fs56 123 (by omega)).trans Q37.2.2.2.2⟩) (by first | omega | (have y := ((H46 ()).resolve_right (fun q => by omega)).2.1; omega)) hW (lv_sub hl [0, 2] rfl)
  refine x_iconst hx hb dX5_readClause_52 ?_
  rw [eQ]
  exact x_zret hx hb hr hlk hW (by omega) ⟨hF58, ⟨hp57.1.1, (hp57.1.2.1.trans q13), (hp57.1.2.2.1.trans q14), trivial⟩, by
    have e := (H46 ()).elim (fun q => absurd q.1 (by omega)) (fun q => q)
    have z := hz.e1 (by rw [← hxz.1]; exact hxz.2) hi.2 (by rw [z46]; exact e.2.1)
    rw [z46] at z
    rw [z]
    exact Or.inr ⟨by omega, e.2.1, e.2.2⟩⟩ dX5_readClause_53


set_option maxHeartbeats 4000000 in
set_option maxRecDepth 100000 in
theorem c_X4_emptyK (l : Launch) (D : va_G) (g : xG) (T : Nat × Nat × Nat) (h0 : Nat) (s0 : xS) (hσ : xRR s0) (p0 : IC s0) : Met l yX4_empty (xws yX4_empty cX4_empty 1 none) { frames := 0, cells := 0, slots := 0, locals := 0 } (xP [.ref (h0 + 118)] D g T h0 s0) (xQv D g h0 (fun τ => xFr (fun k => k = 118) s0 τ ∧ (((IC τ) ∧ True) ∧ (τ 118 2 = 0 ∧ τ 118 6 = 0)))) 0 0 (xA h0) := by
  refine x_met hσ (by decide) (Nat.le_of_ble_eq_true rfl) ?_
  intro p e s m args below meth c hx hb hr hml hown hT hlk hnm hE hW ls hl
  have hl : lv_has ls 1 [(0, .ref (h0 + 118))] := hl
  obtain ⟨Q, eQ⟩ : ∃ Q, Q = MQ below (xQv D g h0 (fun τ => xFr (fun k => k = 118) s0 τ ∧ (((IC τ) ∧ True) ∧ (τ 118 2 = 0 ∧ τ 118 6 = 0)))) args s 0 0 (xA h0) := ⟨_, rfl⟩
  rw [← eQ]
  generalize hHe : ([] : List Loc) = locs at hW ⊢
  obtain ⟨H, eH⟩ : ∃ H, H = s.heap := ⟨_, rfl⟩
  rw [← eH] at hW ⊢
  have hF : xFr (fun k => k = 118) s0 s0 := xFr.rf
  refine x_aload_n hx hb hl 0 rfl dX4_empty_0 rfl ?_
  refine x_iconst hx hb dX4_empty_1 ?_
  refine x_put (j := 2) hx hb hown hT hE hW cls_X4 (by decide) (fun σ => so_118 h0 g σ) (by decide) (st_X4_2 h0 s0 118 0) (ln_X4_2 h0 _ _) wq253 rfl rfl rfl (by decide) dX4_empty_2 (fun H locs s1 es1 hW => ?_)
  have q2 : IC s1 := by rw [es1]; exact IC_L_118 p0 (by omega)
  have q3 : s1 118 2 = 0 := by rw [es1, xU_s]
  have hF4 := hF.put es1 (by omega)
  refine x_aload_n hx hb hl 0 rfl dX4_empty_5 rfl ?_
  refine x_iconst hx hb dX4_empty_6 ?_
  refine x_put (j := 6) hx hb hown hT hE hW cls_X4 (by decide) (fun σ => so_118 h0 g σ) (by decide) (st_X4_6 h0 s1 118 0) (ln_X4_6 h0 _ _) wq261 rfl rfl rfl (by decide) dX4_empty_7 (fun H locs s5 es5 hW => ?_)
  have q6 : IC s5 := by rw [es5]; exact IC_L_118 q2 (by omega)
  have q7 : s5 118 2 = 0 := (show s5 118 2 = s1 118 2 from by rw [es5, xU_j _ _ (by decide)]).trans q3
  have q8 : s5 118 6 = 0 := by rw [es5, xU_s]
  have hF9 := hF4.put es5 (by omega)
  rw [eQ]
  exact x_vret hx hb hr hlk hW ⟨hF9, ⟨q6, trivial⟩, by omega⟩ dX4_empty_10
set_option maxHeartbeats 4000000 in
set_option maxRecDepth 100000 in
theorem c_X5_readWholeK (l : Launch) (D : va_G) (g : xG) (T : Nat × Nat × Nat) (h0 : Nat) (s0 : xS) (hσ : xRR s0) (f9 : Int → Int) (n9 : Int) (C9 : Int → Int) (L9 : Int → Int) (A9 : Int → Int) (B9 : Int → Int) (T9 : Int → Int) (hf : s0 2 = f9 ∧ s0 1 2 = n9) (hat : s0 1 3 = 0 ∧ 0 ≤ n9 ∧ n9 ≤ 240) (p0 : IC s0) : Met l yX5_readWhole (xws yX5_readWhole cX5_readWhole 3 (some .boolean)) { frames := 25, cells := 0, slots := 0, locals := 573 } (xP [.ref (h0 + 117)] D g T h0 s0) (xQi D g h0 (fun r τ => xFr (fun k => k = 1 ∨ k = 118 ∨ k = 119 ∨ k = 120 ∨ k = 121 ∨ k = 122 ∨ k = 123) s0 τ ∧ (((IC τ) ∧ (τ 1 1 = s0 1 1) ∧ (τ 1 2 = s0 1 2) ∧ True) ∧ ((r = 1 ∧ ∃ c2 C2 L2 A2 B2 T2, (zL0 f9 n9 C9 L9 A9 B9 T9) = (0, τ 118 6, c2, C2, L2, A2, B2, T2) ∧ zKR (τ 119) (τ 120) (τ 121) (τ 122) (τ 123) C2 L2 A2 B2 T2 (τ 118 6) c2 ∧ τ 118 2 = c2 + 2 * τ 118 6) ∨ (r = 0 ∧ (zL0 f9 n9 C9 L9 A9 B9 T9).1 ≠ 0 ∧ τ 1 4 = (zL0 f9 n9 C9 L9 A9 B9 T9).1))))) 0 0 (xA h0) := by
  refine x_met hσ (by decide) (Nat.le_of_ble_eq_true rfl) ?_
  intro p e s m args below meth c hx hb hr hml hown hT hlk hnm hE hW ls hl
  have hl : lv_has ls 3 [(0, .ref (h0 + 117))] := hl
  obtain ⟨Q, eQ⟩ : ∃ Q, Q = MQ below (xQi D g h0 (fun r τ => xFr (fun k => k = 1 ∨ k = 118 ∨ k = 119 ∨ k = 120 ∨ k = 121 ∨ k = 122 ∨ k = 123) s0 τ ∧ (((IC τ) ∧ (τ 1 1 = s0 1 1) ∧ (τ 1 2 = s0 1 2) ∧ True) ∧ ((r = 1 ∧ ∃ c2 C2 L2 A2 B2 T2, (zL0 f9 n9 C9 L9 A9 B9 T9) = (0, τ 118 6, c2, C2, L2, A2, B2, T2) ∧ zKR (τ 119) (τ 120) (τ 121) (τ 122) (τ 123) C2 L2 A2 B2 T2 (τ 118 6) c2 ∧ τ 118 2 = c2 + 2 * τ 118 6) ∨ (r = 0 ∧ (zL0 f9 n9 C9 L9 A9 B9 T9).1 ≠ 0 ∧ τ 1 4 = (zL0 f9 n9 C9 L9 A9 B9 T9).1))))) args s 0 0 (xA h0) := ⟨_, rfl⟩
  rw [← eQ]
  generalize hHe : ([] : List Loc) = locs at hW ⊢
  obtain ⟨H, eH⟩ : ∃ H, H = s.heap := ⟨_, rfl⟩
  rw [← eH] at hW ⊢
  have hF : xFr (fun k => k = 1 ∨ k = 118 ∨ k = 119 ∨ k = 120 ∨ k = 121 ∨ k = 122 ∨ k = 123) s0 s0 := xFr.rf
  have k1_1 : s0 1 1 = s0 1 1 := rfl
  have k1_2 : s0 1 2 = s0 1 2 := rfl
  have k1_3 : s0 1 3 = s0 1 3 := rfl
  have hf2 := hf.2
  refine x_aload_n hx hb hl 0 rfl dX5_readWhole_0 rfl ?_
  refine x_get (j := 1) (v := .ref (h0 + 118)) hx hb hown hT hE hW cls_X5 (Or.inl (by decide)) (so_117 h0 g _) (by decide) rfl wq294 dX5_readWhole_1 ?_
  refine x_gov (x_runVN (As := []) hx hb hml hown hT hE hW hl.1 (Or.inl (by decide)) (so_118 h0 g _) rfl cf_X4_empty wq639 wq14 wn637 (c_X4_emptyK l D g T h0 s0 hW.2.1 p0) ⟨rfl, rfl, ⟨by decide, by decide⟩, ⟨by decide, by decide⟩⟩ rfl rfl (Nat.le_of_ble_eq_true rfl) dX5_readWhole_4) hW (fun s2 H locs hp3 hW => ?_)
  obtain ⟨fs2, hp3⟩ := hp3
  have hF4 := hF.call fs2 (fun k h => by omega)
  have q5 : s2 1 1 = s0 1 1 := (congrFun (fs2 _ (by omega)) _).trans k1_1
  have q6 : s2 1 2 = s0 1 2 := (congrFun (fs2 _ (by omega)) _).trans k1_2
  have q7 : s2 1 3 = s0 1 3 := (congrFun (fs2 _ (by omega)) _).trans k1_3
  have ghp3 := hp3.2
  refine x_iconst hx hb dX5_readWhole_7 ?_
  refine lv_istore_n (lv' := [(1, .int (xJ 0)), (0, .ref (h0 + 117))]) hx hb dX5_readWhole_8 rfl hl (by decide) rfl (fun ls hl => ?_)
  have Lz9 : ∀ (fu : Nat) (i1_9 : Int) (s_9 : xS) (H : Heap) (locs : List Loc) (ls : Array Slot), (xR i1_9) → (xFr (fun k => k = 1 ∨ k = 118 ∨ k = 119 ∨ k = 120 ∨ k = 121 ∨ k = 122 ∨ k = 123) s0 s_9) → (s_9 1 1 = s0 1 1) → (s_9 1 2 = s0 1 2) → (IC s_9) → (0 ≤ i1_9) → (∃ c2 C2 L2 A2 B2 T2, zLX f9 n9 (zL0 f9 n9 C9 L9 A9 B9 T9) true i1_9 (s_9 1 3) c2 C2 L2 A2 B2 T2 ∧ zKR (s_9 119) (s_9 120) (s_9 121) (s_9 122) (s_9 123) C2 L2 A2 B2 T2 i1_9 c2 ∧ s_9 118 2 = c2 + 2 * i1_9) → (17 - i1_9).toNat < fu → xW D g h0 s H locs s_9 → lv_has ls 3 [(0, .ref (h0 + 117)), (1, .int (xJ i1_9))] → W p l e { frames := 25, cells := 0, slots := 0, locals := 573 } s m args below meth c H locs 0 0 Q (F0 m 9 ls []) := by
    intro fu
    induction fu with
    | zero => intro i1_9 s_9 H locs ls ri1_9 hF_9 q9_0 q9_1 q9_3 v9_0 v9_1 hm; exact absurd hm (Nat.not_lt_zero _)
    | succ fu ih9 =>
      intro i1_9 s_9 H locs ls ri1_9 hF_9 q9_0 q9_1 q9_3 v9_0 v9_1 hm hW hl
      obtain ⟨c2, C2, L2, A2, B2, T2, hz2, hk2, hu2⟩ := v9_1
      have w9 := hz2.b
      refine x_iload_n hx hb hl 1 rfl dX5_readWhole_9 rfl ?_
      refine x_bipush hx hb dX5_readWhole_10 (by decide) ?_
      refine x_icmp_gt (tgt := 135) hx hb ri1_9 (by decide) dX5_readWhole_12 (by decide) (fun c8 => False.elim (by omega)) (fun c8 => ?_)
      refine x_aload_n hx hb hl 0 rfl dX5_readWhole_15 rfl ?_
      refine x_get (j := 0) (v := .ref (h0 + 1)) hx hb hown hT hE hW cls_X5 (Or.inl (by decide)) (so_117 h0 g _) (by decide) rfl wq293 dX5_readWhole_16 ?_
      refine x_goi (x_runVN (As := []) hx hb hml hown hT hE hW hl.1 (Or.inl (by decide)) (so_1 h0 g _) rfl cf_X8_sign wq581 wq4 wn641 (c_X8_sign l D g T h0 s_9 hW.2.1 q9_3) ⟨rfl, rfl, ⟨by decide, by decide⟩, ⟨by decide, by decide⟩⟩ rfl rfl (Nat.le_of_ble_eq_true rfl) dX5_readWhole_19) hW (fun x9 s10 H locs rx9 hp11 hW => ?_)
      obtain ⟨es10, hp11⟩ := hp11
      subst es10
      have ghp11 := hp11
      have C19 : x9 = zch f9 n9 (s_9 1 3) := zch_i (by have q8 := congrFun (show s_9 2 = f9 from (hF_9 2 (by omega)).trans hf.1) (s_9 1 3); have q9 := hf.2; omega)
      have z19 := zkl_cs (zch f9 n9 (s_9 1 3))
      refine lv_istore_n (lv' := [(2, .int (xJ x9)), (0, .ref (h0 + 117)), (1, .int (xJ i1_9))]) hx hb dX5_readWhole_22 rfl hl (by decide) rfl (fun ls hl => ?_)
      refine x_iload_n hx hb hl 0 rfl dX5_readWhole_23 rfl ?_
      refine x_goi (x_runS (As := [.int (xJ x9)]) hx hb hml hown hT hE hW hl.1 cf_X5_isKind wq643 wq642 (c_X5_isKindK l D g T h0 s_9 hW.2.1 x9 rx9) ⟨rfl, rfl, ⟨by decide, by decide⟩, ⟨by decide, by decide⟩⟩ rfl rfl (Nat.le_of_ble_eq_true rfl) dX5_readWhole_24) hW (fun x12 s13 H locs rx12 hp14 hW => ?_)
      obtain ⟨es13, hp14⟩ := hp14
      subst es13
      have ghp14 := hp14
      have H24 := ghp14
      refine x_if_ne (tgt := 46) hx hb rx12 dX5_readWhole_27 (by decide) (fun c15 => ?_) (fun c15 => ?_)
      · skip
        refine x_iload_n hx hb hl 2 rfl dX5_readWhole_46 rfl ?_
        refine x_bipush hx hb dX5_readWhole_47 (by decide) ?_
        refine x_icmp_ne (tgt := 68) hx hb ri1_9 (by decide) dX5_readWhole_49 (by decide) (fun c16 => ?_) (fun c16 => ?_)
        · skip
          refine x_aload_n hx hb hl 1 rfl dX5_readWhole_68 rfl ?_
          refine x_get (j := 0) (v := .ref (h0 + 1)) hx hb hown hT hE hW cls_X5 (Or.inl (by decide)) (so_117 h0 g _) (by decide) rfl wq293 dX5_readWhole_69 ?_
          refine lv_dup hx hb dX5_readWhole_72 rfl ?_
          refine x_getN (j := 3) (v := .int (xJ (s_9 1 3))) hx hb hown hT hE hW cls_X8 (Or.inl (by decide)) (so_1 h0 g _) (by decide) rfl wn201 dX5_readWhole_73 ?_
          refine x_rd hW (fun x17 ex17 rx17 => ?_)
          refine x_iconst hx hb dX5_readWhole_76 ?_
          refine x_iadd hx hb dX5_readWhole_77 ?_
          refine x_putN (j := 3) hx hb hown hT hE hW cls_X8 (by decide) (fun σ => so_1 h0 g σ) (by decide) (st_X8_3 h0 s_9 1 (x17 + 1)) (ln_X8_3 h0 _ _) wn201 rfl rfl rfl (by omega) dX5_readWhole_78 (fun H locs s18 es18 hW => ?_)
          have q19 : s18 1 1 = s0 1 1 := (show s18 1 1 = s_9 1 1 from by rw [es18, xU_j _ _ (by decide)]).trans q9_0
          have q20 : s18 1 2 = s0 1 2 := (show s18 1 2 = s_9 1 2 from by rw [es18, xU_j _ _ (by decide)]).trans q9_1
          have q21 : IC s18 := by rw [es18]; exact IC_1 q9_3 (by omega)
          have q22 : s18 1 3 = (x17 + 1) := by rw [es18, xU_s]
          have hF23 := hF_9.put es18 (by omega)
          have i78 : 0 ≤ i1_9 ∧ i1_9 < 16 := by omega
          refine x_aload_n hx hb hl 1 rfl dX5_readWhole_81 rfl ?_
          refine x_iload_n hx hb hl 0 rfl dX5_readWhole_82 rfl ?_
          refine x_iload_n hx hb hl 2 rfl dX5_readWhole_83 rfl ?_
          refine x_goi (x_runV (As := [.int (xJ x9), .int (xJ i1_9)]) hx hb hml hown hT hE hW hl.1 (Or.inl (by decide)) (so_117 h0 g _) rfl cf_X5_readClause wq648 wq15 wq646 (c_X5_readClauseK l D g T h0 s18 hW.2.1 x9 rx9 i1_9 ri1_9 f9 n9 (zL0 f9 n9 C9 L9 A9 B9 T9) c2 C2 L2 A2 B2 T2 (by first | exact hf | exact ⟨(hF23 2 (by omega)).trans hf.1, by omega⟩) (by rw [show s18 1 3 - 1 = s_9 1 3 from by omega]; exact hz2) (⟨by rw [show s18 1 3 - 1 = s_9 1 3 from by omega]; exact C19, by rw [C19]; omega⟩) (i78) (by rw [es18, xU_k _ _ _ (by omega)]; exact hu2) ((by rw [es18, xU_k _ _ _ (by omega), xU_k _ _ _ (by omega), xU_k _ _ _ (by omega), xU_k _ _ _ (by omega), xU_k _ _ _ (by omega)]; exact hk2)) q21) ⟨rfl, rfl, ⟨by decide, by decide⟩, ⟨by decide, by decide⟩⟩ rfl rfl (Nat.le_of_ble_eq_true rfl) dX5_readWhole_84) hW (fun x24 s25 H locs rx24 hp26 hW => ?_)
          obtain ⟨fs25, hp26⟩ := hp26
          have hF27 := hF23.call fs25 (fun k h => by omega)
          have ghp26 := hp26.2
          have g84 := ghp26
          obtain ⟨p84, ep84⟩ : ∃ p : Int, p = s25 1 3 := ⟨_, rfl⟩
          rw [← ep84] at g84
          have H84 := fun (_ : Unit) => g84
          clear g84 ghp26
          replace hp26 := And.intro hp26.1 trivial
          have G84 : s25 2 = f9 ∧ s25 1 2 = n9 := ⟨(hF27 2 (by omega)).trans hf.1, by omega⟩
          have Y84 : p84 < n9 → 0 ≤ p84 → p84 < 260 → 0 ≤ zch f9 n9 p84 := fun h h9 h8 => by
            have b := (IC.by_ hp26.1.1) p84 h9 h8
            rw [G84.1] at b
            rw [← zch_i (Or.inl ⟨h, rfl⟩)]
            exact b.1
          refine x_if_ne (tgt := 92) hx hb rx24 dX5_readWhole_87 (by decide) (fun c28 => ?_) (fun c28 => ?_)
          · skip
            refine x_aload_n hx hb hl 1 rfl dX5_readWhole_92 rfl ?_
            refine x_get (j := 1) (v := .ref (h0 + 118)) hx hb hown hT hE hW cls_X5 (Or.inl (by decide)) (so_117 h0 g _) (by decide) rfl wq294 dX5_readWhole_93 ?_
            refine x_iload_n hx hb hl 2 rfl dX5_readWhole_96 rfl ?_
            refine x_iconst hx hb dX5_readWhole_97 ?_
            refine x_iadd hx hb dX5_readWhole_98 ?_
            refine x_putN (j := 6) hx hb hown hT hE hW cls_X4 (by decide) (fun σ => so_118 h0 g σ) (by decide) (st_X4_6 h0 s25 118 (i1_9 + 1)) (ln_X4_6 h0 _ _) wn262 rfl rfl rfl (by omega) dX5_readWhole_99 (fun H locs s29 es29 hW => ?_)
            have q30 : IC s29 := by rw [es29]; exact IC_L_118 hp26.1.1 (by omega)
            have q31 : s29 1 1 = s0 1 1 := (show s29 1 1 = s25 1 1 from by rw [es29, xU_k _ _ _ (by omega)]).trans (hp26.1.2.1.trans q19)
            have q32 : s29 1 2 = s0 1 2 := (show s29 1 2 = s25 1 2 from by rw [es29, xU_k _ _ _ (by omega)]).trans (hp26.1.2.2.1.trans q20)
            have q33 : s29 118 6 = (i1_9 + 1) := by rw [es29, xU_s]
            have hF34 := hF27.put es29 (by omega)
            obtain ⟨c3, C3, L3, A3, B3, T3, hz3, hk3, hu3⟩ := ((H84 ()).resolve_right (fun q => by omega)).2.2
            have w3 := hz3.b
            have hk4 : zKR (s29 119) (s29 120) (s29 121) (s29 122) (s29 123) C3 L3 A3 B3 T3 (i1_9 + 1) c3 := (by rw [es29, xU_k _ _ _ (by omega), xU_k _ _ _ (by omega), xU_k _ _ _ (by omega), xU_k _ _ _ (by omega), xU_k _ _ _ (by omega)]; exact hk3)
            have u99 : s29 118 2 = c3 + 2 * (i1_9 + 1) := by rw [es29, xU_j _ _ (by decide)]; exact hu3
            have p99 : s29 1 3 = p84 := by rw [es29, xU_k _ _ _ (by omega)]; exact ep84.symm
            refine x_aload_n hx hb hl 1 rfl dX5_readWhole_102 rfl ?_
            refine x_get (j := 0) (v := .ref (h0 + 1)) hx hb hown hT hE hW cls_X5 (Or.inl (by decide)) (so_117 h0 g _) (by decide) rfl wq293 dX5_readWhole_103 ?_
            refine x_goi (x_runVN (As := []) hx hb hml hown hT hE hW hl.1 (Or.inl (by decide)) (so_1 h0 g _) rfl cf_X8_sign wq581 wq4 wn641 (c_X8_sign l D g T h0 s29 hW.2.1 q30) ⟨rfl, rfl, ⟨by decide, by decide⟩, ⟨by decide, by decide⟩⟩ rfl rfl (Nat.le_of_ble_eq_true rfl) dX5_readWhole_106) hW (fun x35 s36 H locs rx35 hp37 hW => ?_)
            obtain ⟨es36, hp37⟩ := hp37
            subst es36
            have ghp37 := hp37
            have C106 : x35 = zch f9 n9 (s29 1 3) := zch_i (by have q8 := congrFun (show s29 2 = f9 from (hF34 2 (by omega)).trans hf.1) (s29 1 3); have q9 := hf.2; omega)
            rw [p99] at C106
            have G106 : s29 2 = f9 ∧ s29 1 2 = n9 := ⟨(hF34 2 (by omega)).trans hf.1, by omega⟩
            refine x_iconst hx hb dX5_readWhole_109 ?_
            refine x_icmp_ne (tgt := 115) hx hb rx35 (by decide) dX5_readWhole_110 (by decide) (fun c38 => ?_) (fun c38 => ?_)
            · skip
              refine x_aload_n hx hb hl 1 rfl dX5_readWhole_115 rfl ?_
              refine x_get (j := 0) (v := .ref (h0 + 1)) hx hb hown hT hE hW cls_X5 (Or.inl (by decide)) (so_117 h0 g _) (by decide) rfl wq293 dX5_readWhole_116 ?_
              refine x_bipush hx hb dX5_readWhole_119 (by decide) ?_
              refine x_goi (x_runVN (As := [.int (xJ 59)]) hx hb hml hown hT hE hW hl.1 (Or.inl (by decide)) (so_1 h0 g _) rfl cf_X8_passes wq598 wq6 wn674 (c_X8_passesM l D g T h0 s29 hW.2.1 59 (by decide) (by omega) (by omega) q30) ⟨rfl, rfl, ⟨by decide, by decide⟩, ⟨by decide, by decide⟩⟩ rfl rfl (Nat.le_of_ble_eq_true rfl) dX5_readWhole_121) hW (fun x39 s40 H locs rx39 hp41 hW => ?_)
              obtain ⟨fs40, hp41⟩ := hp41
              have hF42 := hF34.call fs40 (fun k h => by omega)
              have q43 : s40 118 6 = (i1_9 + 1) := (congrFun (fs40 _ (by omega)) _).trans q33
              have ghp41 := hp41.2
              have H121 := ghp41
              rw [G106.1, G106.2, p99] at H121
              refine x_if_ne (tgt := 129) hx hb rx39 dX5_readWhole_124 (by decide) (fun c44 => ?_) (fun c44 => ?_)
              · skip
                refine x_iinc (lv' := [(1, .int (xJ (i1_9 + 1))), (2, .int (xJ x9)), (0, .ref (h0 + 117))]) hx hb hl 2 rfl dX5_readWhole_129 (by decide) rfl (fun ls hl => ?_)
                refine lv_goto (tgt := 9) hx hb dX5_readWhole_132 (by decide) ?_
                exact ih9 (i1_9 + 1) s40 H locs ls (by omega) hF42 (hp41.1.2.1.trans q31) (hp41.1.2.2.1.trans q32) hp41.1.1 (by omega) (⟨c3, C3, L3, A3, B3, T3, hz3.semi (by omega) (by omega), (by rw [fs40 119 (by omega), fs40 120 (by omega), fs40 121 (by omega), fs40 122 (by omega), fs40 123 (by omega)]; exact hk4), (congrFun (fs40 118 (by omega)) 2).trans u99⟩) (by omega) hW (lv_sub hl [2, 0] rfl)
              refine x_iconst hx hb dX5_readWhole_127 ?_
              rw [eQ]
              exact x_zret hx hb hr hlk hW (by omega) ⟨hF42, ⟨hp41.1.1, (hp41.1.2.1.trans q31), (hp41.1.2.2.1.trans q32), trivial⟩, by
    have z := hz3.bad (by have y := hz3.b; omega) (by omega)
    exact Or.inr ⟨by omega, by omega, by omega⟩⟩ dX5_readWhole_128
            refine x_iconst hx hb dX5_readWhole_113 ?_
            rw [eQ]
            exact x_zret hx hb hr hlk hW (by omega) ⟨hF34, ⟨q30, q31, q32, trivial⟩, Or.inl ⟨by omega, c3, C3, L3, A3, B3, T3, by rw [show s29 118 6 = i1_9 + 1 from by omega]; exact hz3.fin (by have y := Y84; omega), by rw [show s29 118 6 = i1_9 + 1 from by omega]; exact hk4, by omega⟩⟩ dX5_readWhole_114
          refine x_iconst hx hb dX5_readWhole_90 ?_
          rw [eQ]
          exact x_zret hx hb hr hlk hW (by omega) ⟨hF27, ⟨hp26.1.1, (hp26.1.2.1.trans q19), (hp26.1.2.2.1.trans q20), trivial⟩, (H84 ()).elim (fun q => absurd q.1 (by omega)) (fun q => Or.inr ⟨by omega, q.2⟩)⟩ dX5_readWhole_91
        refine x_aload_n hx hb hl 1 rfl dX5_readWhole_52 rfl ?_
        refine x_get (j := 0) (v := .ref (h0 + 1)) hx hb hown hT hE hW cls_X5 (Or.inl (by decide)) (so_117 h0 g _) (by decide) rfl wq293 dX5_readWhole_53 ?_
        refine x_iconst hx hb dX5_readWhole_56 ?_
        refine x_aload_n hx hb hl 1 rfl dX5_readWhole_57 rfl ?_
        refine x_get (j := 0) (v := .ref (h0 + 1)) hx hb hown hT hE hW cls_X5 (Or.inl (by decide)) (so_117 h0 g _) (by decide) rfl wq293 dX5_readWhole_58 ?_
        refine x_getN (j := 3) (v := .int (xJ (s_9 1 3))) hx hb hown hT hE hW cls_X8 (Or.inl (by decide)) (so_1 h0 g _) (by decide) rfl wn201 dX5_readWhole_61 ?_
        refine x_rd hW (fun x45 ex45 rx45 => ?_)
        refine x_goi (x_runVN (As := [.int (xJ 4), .int (xJ x45)]) hx hb hml hown hT hE hW hl.1 (Or.inl (by decide)) (so_1 h0 g _) rfl cf_X8_fails wq588 wq5 wn645 (c_X8_failsM l D g T h0 s_9 hW.2.1 4 (by decide) x45 rx45 (by omega) q9_3) ⟨rfl, rfl, ⟨by decide, by decide⟩, ⟨by decide, by decide⟩⟩ rfl rfl (Nat.le_of_ble_eq_true rfl) dX5_readWhole_64) hW (fun x46 s47 H locs rx46 hp48 hW => ?_)
        obtain ⟨fs47, hp48⟩ := hp48
        have hF49 := hF_9.call fs47 (fun k h => by omega)
        have ghp48 := hp48.2
        rw [eQ]
        exact x_zret hx hb hr hlk hW (by omega) ⟨hF49, ⟨hp48.1.1, (hp48.1.2.1.trans q9_0), (hp48.1.2.2.1.trans q9_1), trivial⟩, by
    have z := hz2.four (by omega) (by omega)
    exact Or.inr ⟨by omega, by omega, by omega⟩⟩ dX5_readWhole_67
      refine x_aload_n hx hb hl 1 rfl dX5_readWhole_30 rfl ?_
      refine x_get (j := 0) (v := .ref (h0 + 1)) hx hb hown hT hE hW cls_X5 (Or.inl (by decide)) (so_117 h0 g _) (by decide) rfl wq293 dX5_readWhole_31 ?_
      refine x_iconst hx hb dX5_readWhole_34 ?_
      refine x_aload_n hx hb hl 1 rfl dX5_readWhole_35 rfl ?_
      refine x_get (j := 0) (v := .ref (h0 + 1)) hx hb hown hT hE hW cls_X5 (Or.inl (by decide)) (so_117 h0 g _) (by decide) rfl wq293 dX5_readWhole_36 ?_
      refine x_getN (j := 3) (v := .int (xJ (s_9 1 3))) hx hb hown hT hE hW cls_X8 (Or.inl (by decide)) (so_1 h0 g _) (by decide) rfl wn201 dX5_readWhole_39 ?_
      refine x_rd hW (fun x50 ex50 rx50 => ?_)
      refine x_goi (x_runVN (As := [.int (xJ 1), .int (xJ x50)]) hx hb hml hown hT hE hW hl.1 (Or.inl (by decide)) (so_1 h0 g _) rfl cf_X8_fails wq588 wq5 wn645 (c_X8_failsM l D g T h0 s_9 hW.2.1 1 (by decide) x50 rx50 (by omega) q9_3) ⟨rfl, rfl, ⟨by decide, by decide⟩, ⟨by decide, by decide⟩⟩ rfl rfl (Nat.le_of_ble_eq_true rfl) dX5_readWhole_42) hW (fun x51 s52 H locs rx51 hp53 hW => ?_)
      obtain ⟨fs52, hp53⟩ := hp53
      have hF54 := hF_9.call fs52 (fun k h => by omega)
      have ghp53 := hp53.2
      rw [eQ]
      exact x_zret hx hb hr hlk hW (by omega) ⟨hF54, ⟨hp53.1.1, (hp53.1.2.1.trans q9_0), (hp53.1.2.2.1.trans q9_1), trivial⟩, by
    have z := hz2.one (by omega)
    exact Or.inr ⟨by omega, by omega, by omega⟩⟩ dX5_readWhole_45
  exact Lz9 ((17 - 0 : Int).toNat + 1) 0 s2 H locs ls (by decide) hF4 q5 q6 hp3.1.1 (by omega) (⟨0, C9, L9, A9, B9, T9, by rw [show s2 1 3 = 0 from by omega]; exact zLX.new hat.2, zKR_0 rfl, by omega⟩) (Nat.lt_succ_self _) hW (lv_sub hl [1, 0] rfl)
set_option maxHeartbeats 4000000 in
set_option maxRecDepth 100000 in
theorem c_X4_copyFromK (l : Launch) (D : va_G) (g : xG) (T : Nat × Nat × Nat) (h0 : Nat) (s0 : xS) (hσ : xRR s0) (p0 : IC s0) : Met l yX4_copyFrom (xws yX4_copyFrom cX4_copyFrom 2 none) { frames := 1, cells := 0, slots := 0, locals := 18 } (xP [.ref (h0 + 109), .ref (h0 + 118)] D g T h0 s0) (xQv D g h0 (fun τ => xFr (fun k => k = 109 ∨ k = 110 ∨ k = 111 ∨ k = 112 ∨ k = 113 ∨ k = 114) s0 τ ∧ (((IC τ) ∧ True) ∧ ((∀ j, 0 ≤ j → j < 300 → τ 110 j = s0 119 j ∧ τ 111 j = s0 120 j) ∧ (∀ j, 0 ≤ j → j < 16 → τ 112 j = s0 121 j ∧ τ 113 j = s0 122 j ∧ τ 114 j = s0 123 j) ∧ τ 109 2 = s0 118 2 ∧ τ 109 6 = s0 118 6)))) 0 0 (xA h0) := by
  refine x_met hσ (by decide) (Nat.le_of_ble_eq_true rfl) ?_
  intro p e s m args below meth c hx hb hr hml hown hT hlk hnm hE hW ls hl
  have hl : lv_has ls 2 [(0, .ref (h0 + 109)), (1, .ref (h0 + 118))] := hl
  obtain ⟨Q, eQ⟩ : ∃ Q, Q = MQ below (xQv D g h0 (fun τ => xFr (fun k => k = 109 ∨ k = 110 ∨ k = 111 ∨ k = 112 ∨ k = 113 ∨ k = 114) s0 τ ∧ (((IC τ) ∧ True) ∧ ((∀ j, 0 ≤ j → j < 300 → τ 110 j = s0 119 j ∧ τ 111 j = s0 120 j) ∧ (∀ j, 0 ≤ j → j < 16 → τ 112 j = s0 121 j ∧ τ 113 j = s0 122 j ∧ τ 114 j = s0 123 j) ∧ τ 109 2 = s0 118 2 ∧ τ 109 6 = s0 118 6)))) args s 0 0 (xA h0) := ⟨_, rfl⟩
  rw [← eQ]
  generalize hHe : ([] : List Loc) = locs at hW ⊢
  obtain ⟨H, eH⟩ : ∃ H, H = s.heap := ⟨_, rfl⟩
  rw [← eH] at hW ⊢
  have hF : xFr (fun k => k = 109 ∨ k = 110 ∨ k = 111 ∨ k = 112 ∨ k = 113 ∨ k = 114) s0 s0 := xFr.rf
  refine x_aload_n hx hb hl 1 rfl dX4_copyFrom_0 rfl ?_
  refine x_get (j := 0) (v := .ref (h0 + 119)) hx hb hown hT hE hW cls_X4 (Or.inl (by decide)) (so_118 h0 g _) (by decide) rfl wq251 dX4_copyFrom_1 ?_
  refine x_iconst hx hb dX4_copyFrom_4 ?_
  refine x_aload_n hx hb hl 0 rfl dX4_copyFrom_5 rfl ?_
  refine x_get (j := 0) (v := .ref (h0 + 110)) hx hb hown hT hE hW cls_X4 (Or.inl (by decide)) (so_109 h0 g _) (by decide) rfl wq251 dX4_copyFrom_6 ?_
  refine x_iconst hx hb dX4_copyFrom_9 ?_
  refine x_sipush hx hb dX4_copyFrom_10 (by decide) ?_
  refine x_copyi (ns := 300) (nd := 300) hx hb hml hl.1 hown hT hE hW wq698 wq604 wq603 wq181 (Or.inl (by decide)) (sa_119 h0 g _) (by decide) (fun σ => sa_110 h0 g σ) (by omega) ⟨by decide, Nat.le_of_ble_eq_true rfl⟩ dX4_copyFrom_13 (fun H locs s1 es1 hW => ?_)
  have q2 : IC s1 := IC_f (fun k hk => by rw [es1]; exact xC_k _ _ _ (fun q => hk (q ▸ (by decide)))) p0
  have hF3 := hF.cpy es1 (by omega)
  have E13 := es1
  refine x_aload_n hx hb hl 1 rfl dX4_copyFrom_16 rfl ?_
  refine x_get (j := 1) (v := .ref (h0 + 120)) hx hb hown hT hE hW cls_X4 (Or.inl (by decide)) (so_118 h0 g _) (by decide) rfl wq252 dX4_copyFrom_17 ?_
  refine x_iconst hx hb dX4_copyFrom_20 ?_
  refine x_aload_n hx hb hl 0 rfl dX4_copyFrom_21 rfl ?_
  refine x_get (j := 1) (v := .ref (h0 + 111)) hx hb hown hT hE hW cls_X4 (Or.inl (by decide)) (so_109 h0 g _) (by decide) rfl wq252 dX4_copyFrom_22 ?_
  refine x_iconst hx hb dX4_copyFrom_25 ?_
  refine x_sipush hx hb dX4_copyFrom_26 (by decide) ?_
  refine x_copyi (ns := 300) (nd := 300) hx hb hml hl.1 hown hT hE hW wq698 wq604 wq603 wq181 (Or.inl (by decide)) (sa_120 h0 g _) (by decide) (fun σ => sa_111 h0 g σ) (by omega) ⟨by decide, Nat.le_of_ble_eq_true rfl⟩ dX4_copyFrom_29 (fun H locs s4 es4 hW => ?_)
  have q5 : IC s4 := IC_f (fun k hk => by rw [es4]; exact xC_k _ _ _ (fun q => hk (q ▸ (by decide)))) q2
  have hF6 := hF3.cpy es4 (by omega)
  have E29 := es4
  refine x_aload_n hx hb hl 0 rfl dX4_copyFrom_32 rfl ?_
  refine x_aload_n hx hb hl 1 rfl dX4_copyFrom_33 rfl ?_
  refine x_get (j := 2) (v := .int (xJ (s4 118 2))) hx hb hown hT hE hW cls_X4 (Or.inl (by decide)) (so_118 h0 g _) (by decide) rfl wq253 dX4_copyFrom_34 ?_
  refine x_rd hW (fun x7 ex7 rx7 => ?_)
  have bx7 : 0 ≤ x7 ∧ x7 ≤ 300 := by rw [ex7]; exact (IC.l2 q5).1
  have q8 : s4 118 2 = x7 := ex7.symm
  have Y37 : s4 118 2 = s0 118 2 := by rw [E29, xC_k _ _ _ (by omega), E13, xC_k _ _ _ (by omega)]
  have V37 : x7 = s0 118 2 := by omega
  refine x_put (j := 2) hx hb hown hT hE hW cls_X4 (by decide) (fun σ => so_109 h0 g σ) (by decide) (st_X4_2 h0 s4 109 x7) (ln_X4_2 h0 _ _) wq253 rfl rfl rfl rx7 dX4_copyFrom_37 (fun H locs s9 es9 hW => ?_)
  have q10 : IC s9 := by rw [es9]; exact IC_L_109 q5 (by omega)
  have q11 : s9 118 2 = x7 := (show s9 118 2 = s4 118 2 from by rw [es9, xU_k _ _ _ (by omega)]).trans q8
  have q12 : s9 109 2 = x7 := by rw [es9, xU_s]
  have hF13 := hF6.put es9 (by omega)
  have E37 := es9
  refine x_aload_n hx hb hl 1 rfl dX4_copyFrom_40 rfl ?_
  refine x_get (j := 3) (v := .ref (h0 + 121)) hx hb hown hT hE hW cls_X4 (Or.inl (by decide)) (so_118 h0 g _) (by decide) rfl wq255 dX4_copyFrom_41 ?_
  refine x_iconst hx hb dX4_copyFrom_44 ?_
  refine x_aload_n hx hb hl 0 rfl dX4_copyFrom_45 rfl ?_
  refine x_get (j := 3) (v := .ref (h0 + 112)) hx hb hown hT hE hW cls_X4 (Or.inl (by decide)) (so_109 h0 g _) (by decide) rfl wq255 dX4_copyFrom_46 ?_
  refine x_iconst hx hb dX4_copyFrom_49 ?_
  refine x_bipush hx hb dX4_copyFrom_50 (by decide) ?_
  refine x_copyi (ns := 16) (nd := 16) hx hb hml hl.1 hown hT hE hW wq698 wq604 wq603 wq181 (Or.inl (by decide)) (sa_121 h0 g _) (by decide) (fun σ => sa_112 h0 g σ) (by omega) ⟨by decide, Nat.le_of_ble_eq_true rfl⟩ dX4_copyFrom_52 (fun H locs s14 es14 hW => ?_)
  have q15 : IC s14 := IC_f (fun k hk => by rw [es14]; exact xC_k _ _ _ (fun q => hk (q ▸ (by decide)))) q10
  have q16 : s14 118 2 = x7 := (show s14 118 2 = s9 118 2 from by rw [es14, xC_k _ _ _ (by omega)]).trans q11
  have q17 : s14 109 2 = x7 := (show s14 109 2 = s9 109 2 from by rw [es14, xC_k _ _ _ (by omega)]).trans q12
  have hF18 := hF13.cpy es14 (by omega)
  have E52 := es14
  refine x_aload_n hx hb hl 1 rfl dX4_copyFrom_55 rfl ?_
  refine x_get (j := 4) (v := .ref (h0 + 122)) hx hb hown hT hE hW cls_X4 (Or.inl (by decide)) (so_118 h0 g _) (by decide) rfl wq257 dX4_copyFrom_56 ?_
  refine x_iconst hx hb dX4_copyFrom_59 ?_
  refine x_aload_n hx hb hl 0 rfl dX4_copyFrom_60 rfl ?_
  refine x_get (j := 4) (v := .ref (h0 + 113)) hx hb hown hT hE hW cls_X4 (Or.inl (by decide)) (so_109 h0 g _) (by decide) rfl wq257 dX4_copyFrom_61 ?_
  refine x_iconst hx hb dX4_copyFrom_64 ?_
  refine x_bipush hx hb dX4_copyFrom_65 (by decide) ?_
  refine x_copyi (ns := 16) (nd := 16) hx hb hml hl.1 hown hT hE hW wq698 wq604 wq603 wq181 (Or.inl (by decide)) (sa_122 h0 g _) (by decide) (fun σ => sa_113 h0 g σ) (by omega) ⟨by decide, Nat.le_of_ble_eq_true rfl⟩ dX4_copyFrom_67 (fun H locs s19 es19 hW => ?_)
  have q20 : IC s19 := IC_f (fun k hk => by rw [es19]; exact xC_k _ _ _ (fun q => hk (q ▸ (by decide)))) q15
  have q21 : s19 118 2 = x7 := (show s19 118 2 = s14 118 2 from by rw [es19, xC_k _ _ _ (by omega)]).trans q16
  have q22 : s19 109 2 = x7 := (show s19 109 2 = s14 109 2 from by rw [es19, xC_k _ _ _ (by omega)]).trans q17
  have hF23 := hF18.cpy es19 (by omega)
  have E67 := es19
  refine x_aload_n hx hb hl 1 rfl dX4_copyFrom_70 rfl ?_
  refine x_get (j := 5) (v := .ref (h0 + 123)) hx hb hown hT hE hW cls_X4 (Or.inl (by decide)) (so_118 h0 g _) (by decide) rfl wq259 dX4_copyFrom_71 ?_
  refine x_iconst hx hb dX4_copyFrom_74 ?_
  refine x_aload_n hx hb hl 0 rfl dX4_copyFrom_75 rfl ?_
  refine x_get (j := 5) (v := .ref (h0 + 114)) hx hb hown hT hE hW cls_X4 (Or.inl (by decide)) (so_109 h0 g _) (by decide) rfl wq259 dX4_copyFrom_76 ?_
  refine x_iconst hx hb dX4_copyFrom_79 ?_
  refine x_bipush hx hb dX4_copyFrom_80 (by decide) ?_
  refine x_copyi (ns := 16) (nd := 16) hx hb hml hl.1 hown hT hE hW wq698 wq604 wq603 wq181 (Or.inl (by decide)) (sa_123 h0 g _) (by decide) (fun σ => sa_114 h0 g σ) (by omega) ⟨by decide, Nat.le_of_ble_eq_true rfl⟩ dX4_copyFrom_82 (fun H locs s24 es24 hW => ?_)
  have q25 : IC s24 := IC_f (fun k hk => by rw [es24]; exact xC_k _ _ _ (fun q => hk (q ▸ (by decide)))) q20
  have q26 : s24 118 2 = x7 := (show s24 118 2 = s19 118 2 from by rw [es24, xC_k _ _ _ (by omega)]).trans q21
  have q27 : s24 109 2 = x7 := (show s24 109 2 = s19 109 2 from by rw [es24, xC_k _ _ _ (by omega)]).trans q22
  have hF28 := hF23.cpy es24 (by omega)
  have E82 := es24
  refine x_aload_n hx hb hl 0 rfl dX4_copyFrom_85 rfl ?_
  refine x_aload_n hx hb hl 1 rfl dX4_copyFrom_86 rfl ?_
  refine x_get (j := 6) (v := .int (xJ (s24 118 6))) hx hb hown hT hE hW cls_X4 (Or.inl (by decide)) (so_118 h0 g _) (by decide) rfl wq261 dX4_copyFrom_87 ?_
  refine x_rd hW (fun x29 ex29 rx29 => ?_)
  have bx29 : 0 ≤ x29 ∧ x29 ≤ 16 := by rw [ex29]; exact (IC.l2 q25).2
  have q30 : s24 118 6 = x29 := ex29.symm
  have Y90 : s24 118 6 = s0 118 6 := by rw [E82, xC_k _ _ _ (by omega), E67, xC_k _ _ _ (by omega), E52, xC_k _ _ _ (by omega), E37, xU_k _ _ _ (by omega), E29, xC_k _ _ _ (by omega), E13, xC_k _ _ _ (by omega)]
  have V90 : x29 = s0 118 6 := by omega
  refine x_put (j := 6) hx hb hown hT hE hW cls_X4 (by decide) (fun σ => so_109 h0 g σ) (by decide) (st_X4_6 h0 s24 109 x29) (ln_X4_6 h0 _ _) wq261 rfl rfl rfl rx29 dX4_copyFrom_90 (fun H locs s31 es31 hW => ?_)
  have q32 : IC s31 := by rw [es31]; exact IC_L_109 q25 (by omega)
  have q33 : s31 118 2 = x7 := (show s31 118 2 = s24 118 2 from by rw [es31, xU_k _ _ _ (by omega)]).trans q26
  have q34 : s31 109 2 = x7 := (show s31 109 2 = s24 109 2 from by rw [es31, xU_j _ _ (by decide)]).trans q27
  have q35 : s31 118 6 = x29 := (show s31 118 6 = s24 118 6 from by rw [es31, xU_k _ _ _ (by omega)]).trans q30
  have q36 : s31 109 6 = x29 := by rw [es31, xU_s]
  have hF37 := hF28.put es31 (by omega)
  have E90 := es31
  rw [eQ]
  exact x_vret hx hb hr hlk hW ⟨hF37, ⟨q32, trivial⟩, ⟨fun j j1 j2 => ⟨by rw [E90, xU_k _ _ _ (by omega), E82, xC_k _ _ _ (by omega), E67, xC_k _ _ _ (by omega), E52, xC_k _ _ _ (by omega), E37, xU_k _ _ _ (by omega), E29, xC_k _ _ _ (by omega), E13, xC_j, if_pos ⟨j1, j2⟩], by rw [E90, xU_k _ _ _ (by omega), E82, xC_k _ _ _ (by omega), E67, xC_k _ _ _ (by omega), E52, xC_k _ _ _ (by omega), E37, xU_k _ _ _ (by omega), E29, xC_j, if_pos ⟨j1, j2⟩, E13, xC_k _ _ _ (by omega)]⟩, fun j j1 j2 => ⟨by rw [E90, xU_k _ _ _ (by omega), E82, xC_k _ _ _ (by omega), E67, xC_k _ _ _ (by omega), E52, xC_j, if_pos ⟨j1, j2⟩, E37, xU_k _ _ _ (by omega), E29, xC_k _ _ _ (by omega), E13, xC_k _ _ _ (by omega)], by rw [E90, xU_k _ _ _ (by omega), E82, xC_k _ _ _ (by omega), E67, xC_j, if_pos ⟨j1, j2⟩, E52, xC_k _ _ _ (by omega), E37, xU_k _ _ _ (by omega), E29, xC_k _ _ _ (by omega), E13, xC_k _ _ _ (by omega)], by rw [E90, xU_k _ _ _ (by omega), E82, xC_j, if_pos ⟨j1, j2⟩, E67, xC_k _ _ _ (by omega), E52, xC_k _ _ _ (by omega), E37, xU_k _ _ _ (by omega), E29, xC_k _ _ _ (by omega), E13, xC_k _ _ _ (by omega)]⟩, by rw [E90, xU_j _ _ (by decide), E82, xC_k _ _ _ (by omega), E67, xC_k _ _ _ (by omega), E52, xC_k _ _ _ (by omega), E37, xU_s]; exact V37, by rw [E90, xU_s]; exact V90⟩⟩ dX4_copyFrom_93
set_option maxHeartbeats 4000000 in
set_option maxRecDepth 100000 in
theorem c_X10_lawK (l : Launch) (D : va_G) (g : xG) (T : Nat × Nat × Nat) (h0 : Nat) (s0 : xS) (hσ : xRR s0) (n : Int) (rn : xR n) (C9 : Int → Int) (L9 : Int → Int) (A9 : Int → Int) (B9 : Int → Int) (T9 : Int → Int) (p0 : IC s0) : Met l yX10_law (xws yX10_law cX10_law 3 (some .int)) { frames := 26, cells := 0, slots := 0, locals := 595 } (xP [.ref (h0 + 0), .int (xJ n)] D g T h0 s0) (xQi D g h0 (fun r τ => xFr (fun k => k = 1 ∨ k = 109 ∨ k = 110 ∨ k = 111 ∨ k = 112 ∨ k = 113 ∨ k = 114 ∨ k = 118 ∨ k = 119 ∨ k = 120 ∨ k = 121 ∨ k = 122 ∨ k = 123) s0 τ ∧ (((IC τ) ∧ True) ∧ (((n < 1 ∨ 240 < n ∨ s0 1 1 < n) ∧ τ 1 1 = s0 1 1 ∧ r = -1 ∧ (τ 110 = s0 110 ∧ τ 111 = s0 111 ∧ τ 112 = s0 112 ∧ τ 113 = s0 113 ∧ τ 114 = s0 114) ∧ τ 109 2 = s0 109 2 ∧ τ 109 6 = s0 109 6) ∨ (¬ (n < 1 ∨ 240 < n ∨ s0 1 1 < n) ∧ τ 1 1 = 0 ∧ (((zL0 (s0 2) n C9 L9 A9 B9 T9).1 ≠ 0 ∧ r = (zL0 (s0 2) n C9 L9 A9 B9 T9).1 ∧ (τ 110 = s0 110 ∧ τ 111 = s0 111 ∧ τ 112 = s0 112 ∧ τ 113 = s0 113 ∧ τ 114 = s0 114) ∧ τ 109 2 = s0 109 2 ∧ τ 109 6 = s0 109 6) ∨ (∃ M2 c2 C2 L2 A2 B2 T2, (zL0 (s0 2) n C9 L9 A9 B9 T9) = (0, M2, c2, C2, L2, A2, B2, T2) ∧ r = M2 ∧ τ 109 6 = M2 ∧ τ 109 2 = c2 + 2 * M2 ∧ zKR (τ 110) (τ 111) (τ 112) (τ 113) (τ 114) C2 L2 A2 B2 T2 M2 c2))))))) 0 0 (xA h0) := by
  refine x_met hσ (by decide) (Nat.le_of_ble_eq_true rfl) ?_
  intro p e s m args below meth c hx hb hr hml hown hT hlk hnm hE hW ls hl
  have hl : lv_has ls 3 [(0, .ref (h0 + 0)), (1, .int (xJ n))] := hl
  obtain ⟨Q, eQ⟩ : ∃ Q, Q = MQ below (xQi D g h0 (fun r τ => xFr (fun k => k = 1 ∨ k = 109 ∨ k = 110 ∨ k = 111 ∨ k = 112 ∨ k = 113 ∨ k = 114 ∨ k = 118 ∨ k = 119 ∨ k = 120 ∨ k = 121 ∨ k = 122 ∨ k = 123) s0 τ ∧ (((IC τ) ∧ True) ∧ (((n < 1 ∨ 240 < n ∨ s0 1 1 < n) ∧ τ 1 1 = s0 1 1 ∧ r = -1 ∧ (τ 110 = s0 110 ∧ τ 111 = s0 111 ∧ τ 112 = s0 112 ∧ τ 113 = s0 113 ∧ τ 114 = s0 114) ∧ τ 109 2 = s0 109 2 ∧ τ 109 6 = s0 109 6) ∨ (¬ (n < 1 ∨ 240 < n ∨ s0 1 1 < n) ∧ τ 1 1 = 0 ∧ (((zL0 (s0 2) n C9 L9 A9 B9 T9).1 ≠ 0 ∧ r = (zL0 (s0 2) n C9 L9 A9 B9 T9).1 ∧ (τ 110 = s0 110 ∧ τ 111 = s0 111 ∧ τ 112 = s0 112 ∧ τ 113 = s0 113 ∧ τ 114 = s0 114) ∧ τ 109 2 = s0 109 2 ∧ τ 109 6 = s0 109 6) ∨ (∃ M2 c2 C2 L2 A2 B2 T2, (zL0 (s0 2) n C9 L9 A9 B9 T9) = (0, M2, c2, C2, L2, A2, B2, T2) ∧ r = M2 ∧ τ 109 6 = M2 ∧ τ 109 2 = c2 + 2 * M2 ∧ zKR (τ 110) (τ 111) (τ 112) (τ 113) (τ 114) C2 L2 A2 B2 T2 M2 c2))))))) args s 0 0 (xA h0) := ⟨_, rfl⟩
  rw [← eQ]
  generalize hHe : ([] : List Loc) = locs at hW ⊢
  obtain ⟨H, eH⟩ : ∃ H, H = s.heap := ⟨_, rfl⟩
  rw [← eH] at hW ⊢
  have hF : xFr (fun k => k = 1 ∨ k = 109 ∨ k = 110 ∨ k = 111 ∨ k = 112 ∨ k = 113 ∨ k = 114 ∨ k = 118 ∨ k = 119 ∨ k = 120 ∨ k = 121 ∨ k = 122 ∨ k = 123) s0 s0 := xFr.rf
  have k1_1 : s0 1 1 = s0 1 1 := rfl
  refine x_iload_n hx hb hl 1 rfl dX10_law_0 rfl ?_
  refine x_iconst hx hb dX10_law_1 ?_
  refine x_sipush hx hb dX10_law_2 (by decide) ?_
  refine x_goi (x_runS (As := [.int (xJ n), .int (xJ 1), .int (xJ 240)]) hx hb hml hown hT hE hW hl.1 cf_X10_isIn wq562 wq561 (c_X10_isIn l D g T h0 s0 hW.2.1 n rn 1 (by decide) 240 (by decide)) ⟨rfl, rfl, ⟨by decide, by decide⟩, ⟨by decide, by decide⟩⟩ rfl rfl (Nat.le_of_ble_eq_true rfl) dX10_law_5) hW (fun x1 s2 H locs rx1 hp3 hW => ?_)
  obtain ⟨es2, hp3⟩ := hp3
  subst es2
  have ghp3 := hp3
  refine x_if_eq (tgt := 22) hx hb rx1 dX10_law_8 (by decide) (fun c4 => ?_) (fun c4 => ?_)
  · skip
    refine x_iconst hx hb dX10_law_22 ?_
    rw [eQ]
    exact x_iret hx hb hr hlk hW (by decide) ⟨hF, ⟨p0, trivial⟩, Or.inl ⟨by omega, by omega, by omega, by exact ⟨⟨rfl, rfl, rfl, rfl, rfl⟩, rfl, rfl⟩⟩⟩ dX10_law_23
  refine x_iload_n hx hb hl 1 rfl dX10_law_11 rfl ?_
  refine x_aload_n hx hb hl 0 rfl dX10_law_12 rfl ?_
  refine x_get (j := 0) (v := .ref (h0 + 1)) hx hb hown hT hE hW cls_X10 (Or.inl (by decide)) (so_0 h0 g _) (by decide) rfl wq512 dX10_law_13 ?_
  refine x_getN (j := 1) (v := .int (xJ (s0 1 1))) hx hb hown hT hE hW cls_X8 (Or.inl (by decide)) (so_1 h0 g _) (by decide) rfl wn198 dX10_law_16 ?_
  refine x_rd hW (fun x5 ex5 rx5 => ?_)
  have bx5 : 0 ≤ x5 ∧ x5 ≤ 260 := by rw [ex5]; exact IC.t p0
  have fx5 : x5 = s0 1 1 := ex5.trans k1_1
  refine x_icmp_le (tgt := 24) hx hb rn rx5 dX10_law_19 (by decide) (fun c6 => ?_) (fun c6 => ?_)
  · skip
    refine x_aload_n hx hb hl 0 rfl dX10_law_24 rfl ?_
    refine x_get (j := 0) (v := .ref (h0 + 1)) hx hb hown hT hE hW cls_X10 (Or.inl (by decide)) (so_0 h0 g _) (by decide) rfl wq512 dX10_law_25 ?_
    refine x_iload_n hx hb hl 1 rfl dX10_law_28 rfl ?_
    refine x_gov (x_runVN (As := [.int (xJ n)]) hx hb hml hown hT hE hW hl.1 (Or.inl (by decide)) (so_1 h0 g _) rfl cf_X8_open wq566 wq1 wn564 (c_X8_openM l D g T h0 s0 hW.2.1 n rn (by omega) p0) ⟨rfl, rfl, ⟨by decide, by decide⟩, ⟨by decide, by decide⟩⟩ rfl rfl (Nat.le_of_ble_eq_true rfl) dX10_law_29) hW (fun s8 H locs hp9 hW => ?_)
    obtain ⟨fs8, hp9⟩ := hp9
    have hF10 := hF.call fs8 (fun k h => by omega)
    have ghp9 := hp9.2
    have O29 := ghp9
    have Q29 : (s8 110 = s0 110 ∧ s8 111 = s0 111 ∧ s8 112 = s0 112 ∧ s8 113 = s0 113 ∧ s8 114 = s0 114) ∧ s8 109 2 = s0 109 2 ∧ s8 109 6 = s0 109 6 := ⟨⟨(fs8 110 (by omega)).trans rfl, (fs8 111 (by omega)).trans rfl, (fs8 112 (by omega)).trans rfl, (fs8 113 (by omega)).trans rfl, (fs8 114 (by omega)).trans rfl⟩, (congrFun (fs8 109 (by omega)) 2).trans rfl, (congrFun (fs8 109 (by omega)) 6).trans rfl⟩
    refine x_aload_n hx hb hl 0 rfl dX10_law_32 rfl ?_
    refine x_get (j := 3) (v := .ref (h0 + 117)) hx hb hown hT hE hW cls_X10 (Or.inl (by decide)) (so_0 h0 g _) (by decide) rfl wq515 dX10_law_33 ?_
    refine x_goi (x_runVN (As := []) hx hb hml hown hT hE hW hl.1 (Or.inl (by decide)) (so_117 h0 g _) rfl cf_X5_readWhole wq635 wq13 wn633 (c_X5_readWholeK l D g T h0 s8 hW.2.1 (s0 2) n C9 L9 A9 B9 T9 (⟨hF10 2 (by omega), by omega⟩) (by omega) hp9.1.1) ⟨rfl, rfl, ⟨by decide, by decide⟩, ⟨by decide, by decide⟩⟩ rfl rfl (Nat.le_of_ble_eq_true rfl) dX10_law_36) hW (fun x11 s12 H locs rx11 hp13 hW => ?_)
    obtain ⟨fs12, hp13⟩ := hp13
    have hF14 := hF10.call fs12 (fun k h => by omega)
    have ghp13 := hp13.2
    have H36 := fun (_ : Unit) => ghp13
    clear ghp13
    replace hp13 := And.intro hp13.1 trivial
    have Q36 : (s12 110 = s0 110 ∧ s12 111 = s0 111 ∧ s12 112 = s0 112 ∧ s12 113 = s0 113 ∧ s12 114 = s0 114) ∧ s12 109 2 = s0 109 2 ∧ s12 109 6 = s0 109 6 := ⟨⟨(fs12 110 (by omega)).trans Q29.1.1, (fs12 111 (by omega)).trans Q29.1.2.1, (fs12 112 (by omega)).trans Q29.1.2.2.1, (fs12 113 (by omega)).trans Q29.1.2.2.2.1, (fs12 114 (by omega)).trans Q29.1.2.2.2.2⟩, (congrFun (fs12 109 (by omega)) 2).trans Q29.2.1, (congrFun (fs12 109 (by omega)) 6).trans Q29.2.2⟩
    refine lv_istore_n (lv' := [(2, .int (xJ x11)), (0, .ref (h0 + 0)), (1, .int (xJ n))]) hx hb dX10_law_39 rfl hl (by decide) rfl (fun ls hl => ?_)
    refine x_aload_n hx hb hl 1 rfl dX10_law_40 rfl ?_
    refine x_get (j := 0) (v := .ref (h0 + 1)) hx hb hown hT hE hW cls_X10 (Or.inl (by decide)) (so_0 h0 g _) (by decide) rfl wq512 dX10_law_41 ?_
    refine x_gov (x_runVN (As := []) hx hb hml hown hT hE hW hl.1 (Or.inl (by decide)) (so_1 h0 g _) rfl cf_X8_drop wq607 wq7 wn605 (c_X8_dropM l D g T h0 s12 hW.2.1 hp13.1.1) ⟨rfl, rfl, ⟨by decide, by decide⟩, ⟨by decide, by decide⟩⟩ rfl rfl (Nat.le_of_ble_eq_true rfl) dX10_law_44) hW (fun s16 H locs hp17 hW => ?_)
    obtain ⟨fs16, hp17⟩ := hp17
    have hF18 := hF14.call fs16 (fun k h => by omega)
    have ghp17 := hp17.2
    have Q44 : (s16 110 = s0 110 ∧ s16 111 = s0 111 ∧ s16 112 = s0 112 ∧ s16 113 = s0 113 ∧ s16 114 = s0 114) ∧ s16 109 2 = s0 109 2 ∧ s16 109 6 = s0 109 6 := ⟨⟨(fs16 110 (by omega)).trans Q36.1.1, (fs16 111 (by omega)).trans Q36.1.2.1, (fs16 112 (by omega)).trans Q36.1.2.2.1, (fs16 113 (by omega)).trans Q36.1.2.2.2.1, (fs16 114 (by omega)).trans Q36.1.2.2.2.2⟩, (congrFun (fs16 109 (by omega)) 2).trans Q36.2.1, (congrFun (fs16 109 (by omega)) 6).trans Q36.2.2⟩
    have F44 := fs16
    refine x_iload_n hx hb hl 0 rfl dX10_law_47 rfl ?_
    refine x_if_ne (tgt := 59) hx hb rx11 dX10_law_48 (by decide) (fun c19 => ?_) (fun c19 => ?_)
    · skip
      refine x_aload_n hx hb hl 1 rfl dX10_law_59 rfl ?_
      refine x_get (j := 2) (v := .ref (h0 + 109)) hx hb hown hT hE hW cls_X10 (Or.inl (by decide)) (so_0 h0 g _) (by decide) rfl wq514 dX10_law_60 ?_
      refine x_aload_n hx hb hl 1 rfl dX10_law_63 rfl ?_
      refine x_get (j := 3) (v := .ref (h0 + 117)) hx hb hown hT hE hW cls_X10 (Or.inl (by decide)) (so_0 h0 g _) (by decide) rfl wq515 dX10_law_64 ?_
      refine x_getN (j := 1) (v := .ref (h0 + 118)) hx hb hown hT hE hW cls_X5 (Or.inl (by decide)) (so_117 h0 g _) (by decide) rfl wn295 dX10_law_67 ?_
      refine x_gov (x_runVN (As := [.ref (h0 + 118)]) hx hb hml hown hT hE hW hl.1 (Or.inl (by decide)) (so_109 h0 g _) rfl cf_X4_copyFrom wq696 wq26 wn694 (c_X4_copyFromK l D g T h0 s16 hW.2.1 hp17.1.1) ⟨rfl, rfl, ⟨by decide, by decide⟩, ⟨by decide, by decide⟩⟩ rfl rfl (Nat.le_of_ble_eq_true rfl) dX10_law_70) hW (fun s21 H locs hp22 hW => ?_)
      obtain ⟨fs21, hp22⟩ := hp22
      have hF23 := hF18.call fs21 (fun k h => by omega)
      have q24 : s21 1 1 = 0 := (congrFun (fs21 _ (by omega)) _).trans hp17.1.2.1
      have q25 : s21 1 4 = s12 1 4 := (congrFun (fs21 _ (by omega)) _).trans hp17.1.2.2.1
      have ghp22 := hp22.2
      have H70 := ghp22
      refine x_aload_n hx hb hl 1 rfl dX10_law_73 rfl ?_
      refine x_get (j := 2) (v := .ref (h0 + 109)) hx hb hown hT hE hW cls_X10 (Or.inl (by decide)) (so_0 h0 g _) (by decide) rfl wq514 dX10_law_74 ?_
      refine x_getN (j := 6) (v := .int (xJ (s21 109 6))) hx hb hown hT hE hW cls_X4 (Or.inl (by decide)) (so_109 h0 g _) (by decide) rfl wn263 dX10_law_77 ?_
      refine x_rd hW (fun x26 ex26 rx26 => ?_)
      have bx26 : 0 ≤ x26 ∧ x26 ≤ 16 := by rw [ex26]; exact (IC.l1 hp22.1.1).2
      rw [eQ]
      exact x_iret hx hb hr hlk hW rx26 ⟨hF23, ⟨hp22.1.1, trivial⟩, Or.inr ⟨by omega, by omega, Or.inr (by
      obtain ⟨c2, C2, L2, A2, B2, T2, e2, k2, u2⟩ := ((H36 ()).resolve_right (fun q => by omega)).2
      have w2 := zL0_wf (by omega) e2
      have g2 := congrFun (F44 118 (by omega)) 2
      have g6 := congrFun (F44 118 (by omega)) 6
      refine ⟨_, c2, C2, L2, A2, B2, T2, e2, by omega, by omega, by omega, ?_⟩
      refine k2.cp2 (fun j j1 j2 => ?_) (fun j j1 j2 => ?_)
      · rw [(H70.1 j j1 (by omega)).1, (H70.1 j j1 (by omega)).2, F44 119 (by omega), F44 120 (by omega)]; exact ⟨rfl, rfl⟩
      · rw [(H70.2.1 j j1 (by omega)).1, (H70.2.1 j j1 (by omega)).2.1, (H70.2.1 j j1 (by omega)).2.2, F44 121 (by omega), F44 122 (by omega), F44 123 (by omega)]; exact ⟨rfl, rfl, rfl⟩)⟩⟩ dX10_law_80
    refine x_aload_n hx hb hl 1 rfl dX10_law_51 rfl ?_
    refine x_get (j := 0) (v := .ref (h0 + 1)) hx hb hown hT hE hW cls_X10 (Or.inl (by decide)) (so_0 h0 g _) (by decide) rfl wq512 dX10_law_52 ?_
    refine x_getN (j := 4) (v := .int (xJ (s16 1 4))) hx hb hown hT hE hW cls_X8 (Or.inl (by decide)) (so_1 h0 g _) (by decide) rfl wn205 dX10_law_55 ?_
    refine x_rd hW (fun x27 ex27 rx27 => ?_)
    have fx27 : x27 = s12 1 4 := ex27.trans hp17.1.2.2.1
    rw [eQ]
    exact x_iret hx hb hr hlk hW rx27 ⟨hF18, ⟨hp17.1.1, trivial⟩, Or.inr ⟨by omega, by omega, Or.inl (by
      have e := (H36 ()).resolve_left (fun q => by omega)
      exact ⟨e.2.1, by omega, Q44⟩)⟩⟩ dX10_law_58
  refine x_iconst hx hb dX10_law_22 ?_
  rw [eQ]
  exact x_iret hx hb hr hlk hW (by decide) ⟨hF, ⟨p0, trivial⟩, Or.inl ⟨by omega, by omega, by omega, by exact ⟨⟨rfl, rfl, rfl, rfl, rfl⟩, rfl, rfl⟩⟩⟩ dX10_law_23


set_option maxHeartbeats 4000000 in
set_option maxRecDepth 100000 in
theorem c_X11_wrongAtK (l : Launch) (D : va_G) (g : xG) (T : Nat × Nat × Nat) (h0 : Nat) (s0 : xS) (hσ : xRR s0) (a : Int) (ra : xR a) (b : Int) (rb : xR b) (hab : 0 ≤ a ∧ a ≤ 9 ∧ 0 ≤ b ∧ b ≤ 300) (p0 : IMn s0) (p1 : IMk s0) (p2 : IMo s0) (p3 : IR s0) : Met l yX11_wrongAt (xws yX11_wrongAt cX11_wrongAt 3 (some .boolean)) { frames := 0, cells := 0, slots := 0, locals := 0 } (xP [.ref (h0 + 268), .int (xJ a), .int (xJ b)] D g T h0 s0) (xQi D g h0 (fun r τ => xFr (fun k => k = 268) s0 τ ∧ (((IMn τ) ∧ (IMk τ) ∧ (IMo τ) ∧ (IR τ) ∧ (τ 268 8 = s0 268 8) ∧ (τ 268 58 = s0 268 58) ∧ (τ 268 17 = s0 268 17) ∧ (τ 268 9 = s0 268 9) ∧ (τ 268 10 = s0 268 10) ∧ (τ 268 13 = s0 268 13) ∧ (τ 268 14 = s0 268 14) ∧ (τ 268 15 = s0 268 15) ∧ (τ 268 16 = s0 268 16) ∧ (τ 268 48 = s0 268 48) ∧ True) ∧ (r = 0 ∧ τ 268 11 = -1000 * a - b)))) 0 0 (xA h0) := by
  refine x_met hσ (by decide) (Nat.le_of_ble_eq_true rfl) ?_
  intro p e s m args below meth c hx hb hr hml hown hT hlk hnm hE hW ls hl
  have hl : lv_has ls 3 [(0, .ref (h0 + 268)), (1, .int (xJ a)), (2, .int (xJ b))] := hl
  obtain ⟨Q, eQ⟩ : ∃ Q, Q = MQ below (xQi D g h0 (fun r τ => xFr (fun k => k = 268) s0 τ ∧ (((IMn τ) ∧ (IMk τ) ∧ (IMo τ) ∧ (IR τ) ∧ (τ 268 8 = s0 268 8) ∧ (τ 268 58 = s0 268 58) ∧ (τ 268 17 = s0 268 17) ∧ (τ 268 9 = s0 268 9) ∧ (τ 268 10 = s0 268 10) ∧ (τ 268 13 = s0 268 13) ∧ (τ 268 14 = s0 268 14) ∧ (τ 268 15 = s0 268 15) ∧ (τ 268 16 = s0 268 16) ∧ (τ 268 48 = s0 268 48) ∧ True) ∧ (r = 0 ∧ τ 268 11 = -1000 * a - b)))) args s 0 0 (xA h0) := ⟨_, rfl⟩
  rw [← eQ]
  generalize hHe : ([] : List Loc) = locs at hW ⊢
  obtain ⟨H, eH⟩ : ∃ H, H = s.heap := ⟨_, rfl⟩
  rw [← eH] at hW ⊢
  have hF : xFr (fun k => k = 268) s0 s0 := xFr.rf
  have k268_8 : s0 268 8 = s0 268 8 := rfl
  have k268_58 : s0 268 58 = s0 268 58 := rfl
  have k268_17 : s0 268 17 = s0 268 17 := rfl
  have k268_9 : s0 268 9 = s0 268 9 := rfl
  have k268_10 : s0 268 10 = s0 268 10 := rfl
  have k268_13 : s0 268 13 = s0 268 13 := rfl
  have k268_14 : s0 268 14 = s0 268 14 := rfl
  have k268_15 : s0 268 15 = s0 268 15 := rfl
  have k268_16 : s0 268 16 = s0 268 16 := rfl
  have k268_48 : s0 268 48 = s0 268 48 := rfl
  refine x_aload_n hx hb hl 0 rfl dX11_wrongAt_0 rfl ?_
  refine x_sipush hx hb dX11_wrongAt_1 (by decide) ?_
  refine x_iload_n hx hb hl 1 rfl dX11_wrongAt_4 rfl ?_
  refine x_imul hx hb dX11_wrongAt_5 ?_
  refine x_iload_n hx hb hl 2 rfl dX11_wrongAt_6 rfl ?_
  refine x_isub hx hb dX11_wrongAt_7 ?_
  refine x_put (j := 11) hx hb hown hT hE hW cls_X11 (by decide) (fun σ => so_268 h0 g σ) (by decide) (st_X11_11 h0 s0 268 (((-1000) * a) - b)) (ln_X11_11 h0 _ _) wq1196 rfl rfl rfl (by omega) dX11_wrongAt_8 (fun H locs s1 es1 hW => ?_)
  have q2 : IMn s1 := by rw [es1]; exact IMn_268 p0 (by omega)
  have q3 : IMk s1 := by rw [es1]; exact IMk_268 p1 (by omega)
  have q4 : IMo s1 := by rw [es1]; exact IMo_o (by unfold suIMo; first | decide | omega) p2
  have q5 : IR s1 := by rw [es1]; exact IR_268 p3 (by omega)
  have q6 : s1 268 8 = s0 268 8 := (show s1 268 8 = s0 268 8 from by rw [es1, xU_j _ _ (by decide)]).trans k268_8
  have q7 : s1 268 58 = s0 268 58 := (show s1 268 58 = s0 268 58 from by rw [es1, xU_j _ _ (by decide)]).trans k268_58
  have q8 : s1 268 17 = s0 268 17 := (show s1 268 17 = s0 268 17 from by rw [es1, xU_j _ _ (by decide)]).trans k268_17
  have q9 : s1 268 9 = s0 268 9 := (show s1 268 9 = s0 268 9 from by rw [es1, xU_j _ _ (by decide)]).trans k268_9
  have q10 : s1 268 10 = s0 268 10 := (show s1 268 10 = s0 268 10 from by rw [es1, xU_j _ _ (by decide)]).trans k268_10
  have q11 : s1 268 13 = s0 268 13 := (show s1 268 13 = s0 268 13 from by rw [es1, xU_j _ _ (by decide)]).trans k268_13
  have q12 : s1 268 14 = s0 268 14 := (show s1 268 14 = s0 268 14 from by rw [es1, xU_j _ _ (by decide)]).trans k268_14
  have q13 : s1 268 15 = s0 268 15 := (show s1 268 15 = s0 268 15 from by rw [es1, xU_j _ _ (by decide)]).trans k268_15
  have q14 : s1 268 16 = s0 268 16 := (show s1 268 16 = s0 268 16 from by rw [es1, xU_j _ _ (by decide)]).trans k268_16
  have q15 : s1 268 48 = s0 268 48 := (show s1 268 48 = s0 268 48 from by rw [es1, xU_j _ _ (by decide)]).trans k268_48
  have q16 : s1 268 11 = (((-1000) * a) - b) := by rw [es1, xU_s]
  have hF17 := hF.put es1 (by omega)
  refine x_iconst hx hb dX11_wrongAt_11 ?_
  rw [eQ]
  exact x_zret hx hb hr hlk hW (by omega) ⟨hF17, ⟨q2, q3, q4, q5, q6, q7, q8, q9, q10, q11, q12, q13, q14, q15, trivial⟩, by omega⟩ dX11_wrongAt_12
set_option maxHeartbeats 4000000 in
set_option maxRecDepth 100000 in
theorem c_X11_takesK (l : Launch) (D : va_G) (g : xG) (T : Nat × Nat × Nat) (h0 : Nat) (s0 : xS) (hσ : xRR s0) (v : Int) (rv : xR v) (hc : 0 ≤ v) (p0 : IMn s0) (p1 : IMk s0) (p2 : IMo s0) (p3 : IR s0) : Met l yX11_takes (xws yX11_takes cX11_takes 2 (some .boolean)) { frames := 1, cells := 0, slots := 0, locals := 22 } (xP [.ref (h0 + 268), .int (xJ v)] D g T h0 s0) (xQi D g h0 (fun r τ => xFr (fun k => k = 268) s0 τ ∧ (((IMn τ) ∧ (IMk τ) ∧ (IMo τ) ∧ (IR τ) ∧ (τ 268 8 = s0 268 8) ∧ (τ 268 58 = s0 268 58) ∧ (τ 268 17 = s0 268 17) ∧ (τ 268 10 = s0 268 10) ∧ (τ 268 14 = s0 268 14) ∧ (τ 268 16 = s0 268 16) ∧ (τ 268 48 = s0 268 48) ∧ True) ∧ ((r = 1 ∧ zhC s0 = v ∧ τ 268 9 = s0 268 9 + 1) ∨ (r = 0 ∧ zhC s0 ≠ v ∧ τ 268 9 = s0 268 9 ∧ τ 268 11 = -1000 - s0 268 9))))) 0 0 (xA h0) := by
  refine x_met hσ (by decide) (Nat.le_of_ble_eq_true rfl) ?_
  intro p e s m args below meth c hx hb hr hml hown hT hlk hnm hE hW ls hl
  have hl : lv_has ls 2 [(0, .ref (h0 + 268)), (1, .int (xJ v))] := hl
  obtain ⟨Q, eQ⟩ : ∃ Q, Q = MQ below (xQi D g h0 (fun r τ => xFr (fun k => k = 268) s0 τ ∧ (((IMn τ) ∧ (IMk τ) ∧ (IMo τ) ∧ (IR τ) ∧ (τ 268 8 = s0 268 8) ∧ (τ 268 58 = s0 268 58) ∧ (τ 268 17 = s0 268 17) ∧ (τ 268 10 = s0 268 10) ∧ (τ 268 14 = s0 268 14) ∧ (τ 268 16 = s0 268 16) ∧ (τ 268 48 = s0 268 48) ∧ True) ∧ ((r = 1 ∧ zhC s0 = v ∧ τ 268 9 = s0 268 9 + 1) ∨ (r = 0 ∧ zhC s0 ≠ v ∧ τ 268 9 = s0 268 9 ∧ τ 268 11 = -1000 - s0 268 9))))) args s 0 0 (xA h0) := ⟨_, rfl⟩
  rw [← eQ]
  generalize hHe : ([] : List Loc) = locs at hW ⊢
  obtain ⟨H, eH⟩ : ∃ H, H = s.heap := ⟨_, rfl⟩
  rw [← eH] at hW ⊢
  have hF : xFr (fun k => k = 268) s0 s0 := xFr.rf
  have k268_8 : s0 268 8 = s0 268 8 := rfl
  have k268_58 : s0 268 58 = s0 268 58 := rfl
  have k268_17 : s0 268 17 = s0 268 17 := rfl
  have k268_10 : s0 268 10 = s0 268 10 := rfl
  have k268_14 : s0 268 14 = s0 268 14 := rfl
  have k268_16 : s0 268 16 = s0 268 16 := rfl
  have k268_48 : s0 268 48 = s0 268 48 := rfl
  have k268_9 : s0 268 9 = s0 268 9 := rfl
  refine x_aload_n hx hb hl 0 rfl dX11_takes_0 rfl ?_
  refine x_goi (x_runV (As := []) hx hb hml hown hT hE hW hl.1 (Or.inl (by decide)) (so_268 h0 g _) rfl cf_X11_here wq1391 wq106 wq1389 (c_X11_here l D g T h0 s0 hW.2.1 p0 p1 p2 p3) ⟨rfl, rfl, ⟨by decide, by decide⟩, ⟨by decide, by decide⟩⟩ rfl rfl (Nat.le_of_ble_eq_true rfl) dX11_takes_1) hW (fun x1 s2 H locs rx1 hp3 hW => ?_)
  obtain ⟨es2, hp3⟩ := hp3
  subst es2
  have ghp3 := hp3
  refine x_iload_n hx hb hl 1 rfl dX11_takes_4 rfl ?_
  refine x_icmp_eq (tgt := 18) hx hb rx1 rv dX11_takes_5 (by decide) (fun c4 => ?_) (fun c4 => ?_)
  · skip
    refine x_aload_n hx hb hl 0 rfl dX11_takes_18 rfl ?_
    refine x_aload_n hx hb hl 0 rfl dX11_takes_19 rfl ?_
    refine x_get (j := 9) (v := .int (xJ (s0 268 9))) hx hb hown hT hE hW cls_X11 (Or.inl (by decide)) (so_268 h0 g _) (by decide) rfl wq1194 dX11_takes_20 ?_
    refine x_rd hW (fun x5 ex5 rx5 => ?_)
    have bx5 : 0 ≤ x5 ∧ x5 ≤ s0 268 10 ∧ s0 268 10 ≤ 240 := by rw [ex5]; exact p3
    have fx5 : x5 = s0 268 9 := ex5.trans k268_9
    refine x_iconst hx hb dX11_takes_23 ?_
    refine x_iadd hx hb dX11_takes_24 ?_
    refine x_put (j := 9) hx hb hown hT hE hW cls_X11 (by decide) (fun σ => so_268 h0 g σ) (by decide) (st_X11_9 h0 s0 268 (x5 + 1)) (ln_X11_9 h0 _ _) wq1194 rfl rfl rfl (by omega) dX11_takes_25 (fun H locs s6 es6 hW => ?_)
    have q7 : IMn s6 := by rw [es6]; exact IMn_268 p0 (by omega)
    have q8 : IMk s6 := by rw [es6]; exact IMk_268 p1 (by omega)
    have q9 : IMo s6 := by rw [es6]; exact IMo_o (by unfold suIMo; first | decide | omega) p2
    have q10 : IR s6 := by rw [es6]; exact IR_268 p3 (by omega)
    have q11 : s6 268 8 = s0 268 8 := (show s6 268 8 = s0 268 8 from by rw [es6, xU_j _ _ (by decide)]).trans k268_8
    have q12 : s6 268 58 = s0 268 58 := (show s6 268 58 = s0 268 58 from by rw [es6, xU_j _ _ (by decide)]).trans k268_58
    have q13 : s6 268 17 = s0 268 17 := (show s6 268 17 = s0 268 17 from by rw [es6, xU_j _ _ (by decide)]).trans k268_17
    have q14 : s6 268 10 = s0 268 10 := (show s6 268 10 = s0 268 10 from by rw [es6, xU_j _ _ (by decide)]).trans k268_10
    have q15 : s6 268 14 = s0 268 14 := (show s6 268 14 = s0 268 14 from by rw [es6, xU_j _ _ (by decide)]).trans k268_14
    have q16 : s6 268 16 = s0 268 16 := (show s6 268 16 = s0 268 16 from by rw [es6, xU_j _ _ (by decide)]).trans k268_16
    have q17 : s6 268 48 = s0 268 48 := (show s6 268 48 = s0 268 48 from by rw [es6, xU_j _ _ (by decide)]).trans k268_48
    have q18 : s6 268 9 = (x5 + 1) := by rw [es6, xU_s]
    have hF19 := hF.put es6 (by omega)
    refine x_iconst hx hb dX11_takes_28 ?_
    rw [eQ]
    exact x_zret hx hb hr hlk hW (by omega) ⟨hF19, ⟨q7, q8, q9, q10, q11, q12, q13, q14, q15, q16, q17, trivial⟩, by omega⟩ dX11_takes_29
  refine x_aload_n hx hb hl 0 rfl dX11_takes_8 rfl ?_
  refine x_iconst hx hb dX11_takes_9 ?_
  refine x_aload_n hx hb hl 0 rfl dX11_takes_10 rfl ?_
  refine x_get (j := 9) (v := .int (xJ (s0 268 9))) hx hb hown hT hE hW cls_X11 (Or.inl (by decide)) (so_268 h0 g _) (by decide) rfl wq1194 dX11_takes_11 ?_
  refine x_rd hW (fun x20 ex20 rx20 => ?_)
  have bx20 : 0 ≤ x20 ∧ x20 ≤ s0 268 10 ∧ s0 268 10 ≤ 240 := by rw [ex20]; exact p3
  have fx20 : x20 = s0 268 9 := ex20.trans k268_9
  refine x_goi (x_runV (As := [.int (xJ 1), .int (xJ x20)]) hx hb hml hown hT hE hW hl.1 (Or.inl (by decide)) (so_268 h0 g _) rfl cf_X11_wrongAt wq1401 wq107 wq1399 (c_X11_wrongAtK l D g T h0 s0 hW.2.1 1 (by decide) x20 rx20 (by omega) p0 p1 p2 p3) ⟨rfl, rfl, ⟨by decide, by decide⟩, ⟨by decide, by decide⟩⟩ rfl rfl (Nat.le_of_ble_eq_true rfl) dX11_takes_14) hW (fun x21 s22 H locs rx21 hp23 hW => ?_)
  obtain ⟨fs22, hp23⟩ := hp23
  have hF24 := hF.call fs22 (fun k h => by omega)
  have ghp23 := hp23.2
  rw [eQ]
  exact x_zret hx hb hr hlk hW (by omega) ⟨hF24, ⟨hp23.1.1, hp23.1.2.1, hp23.1.2.2.1, hp23.1.2.2.2.1, (hp23.1.2.2.2.2.1.trans k268_8), (hp23.1.2.2.2.2.2.1.trans k268_58), (hp23.1.2.2.2.2.2.2.1.trans k268_17), (hp23.1.2.2.2.2.2.2.2.2.1.trans k268_10), (hp23.1.2.2.2.2.2.2.2.2.2.2.1.trans k268_14), (hp23.1.2.2.2.2.2.2.2.2.2.2.2.2.1.trans k268_16), (hp23.1.2.2.2.2.2.2.2.2.2.2.2.2.2.1.trans k268_48), trivial⟩, by omega⟩ dX11_takes_17
set_option maxHeartbeats 4000000 in
set_option maxRecDepth 100000 in
theorem c_X11_isDigitK (l : Launch) (D : va_G) (g : xG) (T : Nat × Nat × Nat) (h0 : Nat) (s0 : xS) (hσ : xRR s0) (f9 : Int → Int) (n9 : Int) (hf : xm8 (s0 276) = f9 ∧ s0 268 10 = n9) (p0 : IMn s0) (p1 : IMk s0) (p2 : IMo s0) (p3 : IR s0) : Met l yX11_isDigit (xws yX11_isDigit cX11_isDigit 1 (some .boolean)) { frames := 1, cells := 0, slots := 0, locals := 20 } (xP [.ref (h0 + 268)] D g T h0 s0) (xQi D g h0 (fun r τ => s0 = τ ∧ ((r = 1 ∧ zdg (zch f9 n9 (s0 268 9))) ∨ (r = 0 ∧ ¬ zdg (zch f9 n9 (s0 268 9)))))) 0 0 (xA h0) := by
  refine x_met hσ (by decide) (Nat.le_of_ble_eq_true rfl) ?_
  intro p e s m args below meth c hx hb hr hml hown hT hlk hnm hE hW ls hl
  have hl : lv_has ls 1 [(0, .ref (h0 + 268))] := hl
  obtain ⟨Q, eQ⟩ : ∃ Q, Q = MQ below (xQi D g h0 (fun r τ => s0 = τ ∧ ((r = 1 ∧ zdg (zch f9 n9 (s0 268 9))) ∨ (r = 0 ∧ ¬ zdg (zch f9 n9 (s0 268 9)))))) args s 0 0 (xA h0) := ⟨_, rfl⟩
  rw [← eQ]
  generalize hHe : ([] : List Loc) = locs at hW ⊢
  obtain ⟨H, eH⟩ : ∃ H, H = s.heap := ⟨_, rfl⟩
  rw [← eH] at hW ⊢
  have k268_8 : s0 268 8 = s0 268 8 := rfl
  have k268_58 : s0 268 58 = s0 268 58 := rfl
  have k268_17 : s0 268 17 = s0 268 17 := rfl
  have k268_48 : s0 268 48 = s0 268 48 := rfl
  refine x_aload_n hx hb hl 0 rfl dX11_isDigit_0 rfl ?_
  refine x_goi (x_runV (As := []) hx hb hml hown hT hE hW hl.1 (Or.inl (by decide)) (so_268 h0 g _) rfl cf_X11_here wq1391 wq106 wq1389 (c_X11_here l D g T h0 s0 hW.2.1 p0 p1 p2 p3) ⟨rfl, rfl, ⟨by decide, by decide⟩, ⟨by decide, by decide⟩⟩ rfl rfl (Nat.le_of_ble_eq_true rfl) dX11_isDigit_1) hW (fun x1 s2 H locs rx1 hp3 hW => ?_)
  obtain ⟨es2, hp3⟩ := hp3
  subst es2
  have ghp3 := hp3
  have C1 : x1 = zch f9 n9 (s0 268 9) := by
    have q8 := ghp3.1
    rw [zhC_ch, hf.1, hf.2] at q8
    exact q8
  refine x_bipush hx hb dX11_isDigit_4 (by decide) ?_
  refine x_icmp_lt (tgt := 22) hx hb rx1 (by decide) dX11_isDigit_6 (by decide) (fun c4 => ?_) (fun c4 => ?_)
  · skip
    refine x_iconst hx hb dX11_isDigit_22 ?_
    rw [eQ]
    exact x_zret hx hb hr hlk hW (by omega) ⟨rfl, by unfold zdg; omega⟩ dX11_isDigit_23
  refine x_aload_n hx hb hl 0 rfl dX11_isDigit_9 rfl ?_
  refine x_goi (x_runV (As := []) hx hb hml hown hT hE hW hl.1 (Or.inl (by decide)) (so_268 h0 g _) rfl cf_X11_here wq1391 wq106 wq1389 (c_X11_here l D g T h0 s0 hW.2.1 p0 p1 p2 p3) ⟨rfl, rfl, ⟨by decide, by decide⟩, ⟨by decide, by decide⟩⟩ rfl rfl (Nat.le_of_ble_eq_true rfl) dX11_isDigit_10) hW (fun x5 s6 H locs rx5 hp7 hW => ?_)
  obtain ⟨es6, hp7⟩ := hp7
  subst es6
  have ghp7 := hp7
  have C10 : x5 = zch f9 n9 (s0 268 9) := by
    have q8 := ghp7.1
    rw [zhC_ch, hf.1, hf.2] at q8
    exact q8
  refine x_bipush hx hb dX11_isDigit_13 (by decide) ?_
  refine x_icmp_gt (tgt := 22) hx hb rx5 (by decide) dX11_isDigit_15 (by decide) (fun c8 => ?_) (fun c8 => ?_)
  · skip
    refine x_iconst hx hb dX11_isDigit_22 ?_
    rw [eQ]
    exact x_zret hx hb hr hlk hW (by omega) ⟨rfl, by unfold zdg; omega⟩ dX11_isDigit_23
  refine x_iconst hx hb dX11_isDigit_18 ?_
  refine lv_goto (tgt := 23) hx hb dX11_isDigit_19 (by decide) ?_
  rw [eQ]
  exact x_zret hx hb hr hlk hW (by omega) ⟨rfl, by unfold zdg; omega⟩ dX11_isDigit_23
set_option maxHeartbeats 4000000 in
set_option maxRecDepth 100000 in
theorem c_X11_factOfK (l : Launch) (D : va_G) (g : xG) (T : Nat × Nat × Nat) (h0 : Nat) (s0 : xS) (hσ : xRR s0) (x : Int) (rx : xR x) : Met l yX11_factOf (xws yX11_factOf cX11_factOf 1 (some .int)) { frames := 0, cells := 0, slots := 0, locals := 0 } (xP [.int (xJ x)] D g T h0 s0) (xQi D g h0 (fun r τ => s0 = τ ∧ ((x = 116 ∧ r = 0) ∨ (x = 104 ∧ r = 1) ∨ (x = 106 ∧ r = 2) ∨ (x = 102 ∧ r = 3) ∨ (x = 119 ∧ r = 4) ∨ (x = 98 ∧ r = 5) ∨ (x = 115 ∧ r = 6) ∨ (x ≠ 116 ∧ x ≠ 104 ∧ x ≠ 106 ∧ x ≠ 102 ∧ x ≠ 119 ∧ x ≠ 98 ∧ x ≠ 115 ∧ r = -1)))) 0 0 (xA h0) := by
  refine x_met hσ (by decide) (Nat.le_of_ble_eq_true rfl) ?_
  intro p e s m args below meth c hx hb hr hml hown hT hlk hnm hE hW ls hl
  have hl : lv_has ls 1 [(0, .int (xJ x))] := hl
  obtain ⟨Q, eQ⟩ : ∃ Q, Q = MQ below (xQi D g h0 (fun r τ => s0 = τ ∧ ((x = 116 ∧ r = 0) ∨ (x = 104 ∧ r = 1) ∨ (x = 106 ∧ r = 2) ∨ (x = 102 ∧ r = 3) ∨ (x = 119 ∧ r = 4) ∨ (x = 98 ∧ r = 5) ∨ (x = 115 ∧ r = 6) ∨ (x ≠ 116 ∧ x ≠ 104 ∧ x ≠ 106 ∧ x ≠ 102 ∧ x ≠ 119 ∧ x ≠ 98 ∧ x ≠ 115 ∧ r = -1)))) args s 0 0 (xA h0) := ⟨_, rfl⟩
  rw [← eQ]
  generalize hHe : ([] : List Loc) = locs at hW ⊢
  obtain ⟨H, eH⟩ : ∃ H, H = s.heap := ⟨_, rfl⟩
  rw [← eH] at hW ⊢
  refine x_iload_n hx hb hl 0 rfl dX11_factOf_0 rfl ?_
  rcases (show (x < 98 ∨ 119 < x) ∨ x = 98 ∨ x = 99 ∨ x = 100 ∨ x = 101 ∨ x = 102 ∨ x = 103 ∨ x = 104 ∨ x = 105 ∨ x = 106 ∨ x = 107 ∨ x = 108 ∨ x = 109 ∨ x = 110 ∨ x = 111 ∨ x = 112 ∨ x = 113 ∨ x = 114 ∨ x = 115 ∨ x = 116 ∨ x = 117 ∨ x = 118 ∨ x = 119 from by omega) with c1 | c1 | c1 | c1 | c1 | c1 | c1 | c1 | c1 | c1 | c1 | c1 | c1 | c1 | c1 | c1 | c1 | c1 | c1 | c1 | c1 | c1 | c1
  · refine x_tabOut (tgt := 119) hx hb rx dX11_factOf_1 c1 (by decide) ?_
    refine x_iconst hx hb dX11_factOf_119 ?_
    rw [eQ]
    exact x_iret hx hb hr hlk hW (by decide) ⟨rfl, by omega⟩ dX11_factOf_120
  · refine x_tabIn (v := 98) (tgt := 114) hx hb rx c1 dX11_factOf_1 (by decide) rfl (by decide) ?_
    refine x_iconst hx hb dX11_factOf_114 ?_
    rw [eQ]
    exact x_iret hx hb hr hlk hW (by decide) ⟨rfl, by omega⟩ dX11_factOf_115
  · refine x_tabIn (v := 99) (tgt := 119) hx hb rx c1 dX11_factOf_1 (by decide) rfl (by decide) ?_
    refine x_iconst hx hb dX11_factOf_119 ?_
    rw [eQ]
    exact x_iret hx hb hr hlk hW (by decide) ⟨rfl, by omega⟩ dX11_factOf_120
  · refine x_tabIn (v := 100) (tgt := 119) hx hb rx c1 dX11_factOf_1 (by decide) rfl (by decide) ?_
    refine x_iconst hx hb dX11_factOf_119 ?_
    rw [eQ]
    exact x_iret hx hb hr hlk hW (by decide) ⟨rfl, by omega⟩ dX11_factOf_120
  · refine x_tabIn (v := 101) (tgt := 119) hx hb rx c1 dX11_factOf_1 (by decide) rfl (by decide) ?_
    refine x_iconst hx hb dX11_factOf_119 ?_
    rw [eQ]
    exact x_iret hx hb hr hlk hW (by decide) ⟨rfl, by omega⟩ dX11_factOf_120
  · refine x_tabIn (v := 102) (tgt := 110) hx hb rx c1 dX11_factOf_1 (by decide) rfl (by decide) ?_
    refine x_iconst hx hb dX11_factOf_110 ?_
    rw [eQ]
    exact x_iret hx hb hr hlk hW (by decide) ⟨rfl, by omega⟩ dX11_factOf_111
  · refine x_tabIn (v := 103) (tgt := 119) hx hb rx c1 dX11_factOf_1 (by decide) rfl (by decide) ?_
    refine x_iconst hx hb dX11_factOf_119 ?_
    rw [eQ]
    exact x_iret hx hb hr hlk hW (by decide) ⟨rfl, by omega⟩ dX11_factOf_120
  · refine x_tabIn (v := 104) (tgt := 106) hx hb rx c1 dX11_factOf_1 (by decide) rfl (by decide) ?_
    refine x_iconst hx hb dX11_factOf_106 ?_
    rw [eQ]
    exact x_iret hx hb hr hlk hW (by decide) ⟨rfl, by omega⟩ dX11_factOf_107
  · refine x_tabIn (v := 105) (tgt := 119) hx hb rx c1 dX11_factOf_1 (by decide) rfl (by decide) ?_
    refine x_iconst hx hb dX11_factOf_119 ?_
    rw [eQ]
    exact x_iret hx hb hr hlk hW (by decide) ⟨rfl, by omega⟩ dX11_factOf_120
  · refine x_tabIn (v := 106) (tgt := 108) hx hb rx c1 dX11_factOf_1 (by decide) rfl (by decide) ?_
    refine x_iconst hx hb dX11_factOf_108 ?_
    rw [eQ]
    exact x_iret hx hb hr hlk hW (by decide) ⟨rfl, by omega⟩ dX11_factOf_109
  · refine x_tabIn (v := 107) (tgt := 119) hx hb rx c1 dX11_factOf_1 (by decide) rfl (by decide) ?_
    refine x_iconst hx hb dX11_factOf_119 ?_
    rw [eQ]
    exact x_iret hx hb hr hlk hW (by decide) ⟨rfl, by omega⟩ dX11_factOf_120
  · refine x_tabIn (v := 108) (tgt := 119) hx hb rx c1 dX11_factOf_1 (by decide) rfl (by decide) ?_
    refine x_iconst hx hb dX11_factOf_119 ?_
    rw [eQ]
    exact x_iret hx hb hr hlk hW (by decide) ⟨rfl, by omega⟩ dX11_factOf_120
  · refine x_tabIn (v := 109) (tgt := 119) hx hb rx c1 dX11_factOf_1 (by decide) rfl (by decide) ?_
    refine x_iconst hx hb dX11_factOf_119 ?_
    rw [eQ]
    exact x_iret hx hb hr hlk hW (by decide) ⟨rfl, by omega⟩ dX11_factOf_120
  · refine x_tabIn (v := 110) (tgt := 119) hx hb rx c1 dX11_factOf_1 (by decide) rfl (by decide) ?_
    refine x_iconst hx hb dX11_factOf_119 ?_
    rw [eQ]
    exact x_iret hx hb hr hlk hW (by decide) ⟨rfl, by omega⟩ dX11_factOf_120
  · refine x_tabIn (v := 111) (tgt := 119) hx hb rx c1 dX11_factOf_1 (by decide) rfl (by decide) ?_
    refine x_iconst hx hb dX11_factOf_119 ?_
    rw [eQ]
    exact x_iret hx hb hr hlk hW (by decide) ⟨rfl, by omega⟩ dX11_factOf_120
  · refine x_tabIn (v := 112) (tgt := 119) hx hb rx c1 dX11_factOf_1 (by decide) rfl (by decide) ?_
    refine x_iconst hx hb dX11_factOf_119 ?_
    rw [eQ]
    exact x_iret hx hb hr hlk hW (by decide) ⟨rfl, by omega⟩ dX11_factOf_120
  · refine x_tabIn (v := 113) (tgt := 119) hx hb rx c1 dX11_factOf_1 (by decide) rfl (by decide) ?_
    refine x_iconst hx hb dX11_factOf_119 ?_
    rw [eQ]
    exact x_iret hx hb hr hlk hW (by decide) ⟨rfl, by omega⟩ dX11_factOf_120
  · refine x_tabIn (v := 114) (tgt := 119) hx hb rx c1 dX11_factOf_1 (by decide) rfl (by decide) ?_
    refine x_iconst hx hb dX11_factOf_119 ?_
    rw [eQ]
    exact x_iret hx hb hr hlk hW (by decide) ⟨rfl, by omega⟩ dX11_factOf_120
  · refine x_tabIn (v := 115) (tgt := 116) hx hb rx c1 dX11_factOf_1 (by decide) rfl (by decide) ?_
    refine x_bipush hx hb dX11_factOf_116 (by decide) ?_
    rw [eQ]
    exact x_iret hx hb hr hlk hW (by decide) ⟨rfl, by omega⟩ dX11_factOf_118
  · refine x_tabIn (v := 116) (tgt := 104) hx hb rx c1 dX11_factOf_1 (by decide) rfl (by decide) ?_
    refine x_iconst hx hb dX11_factOf_104 ?_
    rw [eQ]
    exact x_iret hx hb hr hlk hW (by decide) ⟨rfl, by omega⟩ dX11_factOf_105
  · refine x_tabIn (v := 117) (tgt := 119) hx hb rx c1 dX11_factOf_1 (by decide) rfl (by decide) ?_
    refine x_iconst hx hb dX11_factOf_119 ?_
    rw [eQ]
    exact x_iret hx hb hr hlk hW (by decide) ⟨rfl, by omega⟩ dX11_factOf_120
  · refine x_tabIn (v := 118) (tgt := 119) hx hb rx c1 dX11_factOf_1 (by decide) rfl (by decide) ?_
    refine x_iconst hx hb dX11_factOf_119 ?_
    rw [eQ]
    exact x_iret hx hb hr hlk hW (by decide) ⟨rfl, by omega⟩ dX11_factOf_120
  · refine x_tabIn (v := 119) (tgt := 112) hx hb rx c1 dX11_factOf_1 (by decide) rfl (by decide) ?_
    refine x_iconst hx hb dX11_factOf_112 ?_
    rw [eQ]
    exact x_iret hx hb hr hlk hW (by decide) ⟨rfl, by omega⟩ dX11_factOf_113
set_option maxHeartbeats 4000000 in
set_option maxRecDepth 100000 in
theorem c_X11_sumSignK (l : Launch) (D : va_G) (g : xG) (T : Nat × Nat × Nat) (h0 : Nat) (s0 : xS) (hσ : xRR s0) (x : Int) (rx : xR x) : Met l yX11_sumSign (xws yX11_sumSign cX11_sumSign 1 (some .int)) { frames := 0, cells := 0, slots := 0, locals := 0 } (xP [.int (xJ x)] D g T h0 s0) (xQi D g h0 (fun r τ => s0 = τ ∧ ((x = 43 ∧ r = 2) ∨ (x = 45 ∧ r = 3) ∨ (x = 42 ∧ r = 4) ∨ (x = 47 ∧ r = 5) ∨ (x = 37 ∧ r = 6) ∨ (x ≠ 43 ∧ x ≠ 45 ∧ x ≠ 42 ∧ x ≠ 47 ∧ x ≠ 37 ∧ r = -1)))) 0 0 (xA h0) := by
  refine x_met hσ (by decide) (Nat.le_of_ble_eq_true rfl) ?_
  intro p e s m args below meth c hx hb hr hml hown hT hlk hnm hE hW ls hl
  have hl : lv_has ls 1 [(0, .int (xJ x))] := hl
  obtain ⟨Q, eQ⟩ : ∃ Q, Q = MQ below (xQi D g h0 (fun r τ => s0 = τ ∧ ((x = 43 ∧ r = 2) ∨ (x = 45 ∧ r = 3) ∨ (x = 42 ∧ r = 4) ∨ (x = 47 ∧ r = 5) ∨ (x = 37 ∧ r = 6) ∨ (x ≠ 43 ∧ x ≠ 45 ∧ x ≠ 42 ∧ x ≠ 47 ∧ x ≠ 37 ∧ r = -1)))) args s 0 0 (xA h0) := ⟨_, rfl⟩
  rw [← eQ]
  generalize hHe : ([] : List Loc) = locs at hW ⊢
  obtain ⟨H, eH⟩ : ∃ H, H = s.heap := ⟨_, rfl⟩
  rw [← eH] at hW ⊢
  refine x_iload_n hx hb hl 0 rfl dX11_sumSign_0 rfl ?_
  refine x_bipush hx hb dX11_sumSign_1 (by decide) ?_
  refine x_icmp_ne (tgt := 10) hx hb rx (by decide) dX11_sumSign_3 (by decide) (fun c1 => ?_) (fun c1 => ?_)
  · skip
    refine x_iload_n hx hb hl 0 rfl dX11_sumSign_10 rfl ?_
    refine x_bipush hx hb dX11_sumSign_11 (by decide) ?_
    refine x_icmp_ne (tgt := 20) hx hb rx (by decide) dX11_sumSign_13 (by decide) (fun c2 => ?_) (fun c2 => ?_)
    · skip
      refine x_iload_n hx hb hl 0 rfl dX11_sumSign_20 rfl ?_
      refine x_bipush hx hb dX11_sumSign_21 (by decide) ?_
      refine x_icmp_ne (tgt := 30) hx hb rx (by decide) dX11_sumSign_23 (by decide) (fun c3 => ?_) (fun c3 => ?_)
      · skip
        refine x_iload_n hx hb hl 0 rfl dX11_sumSign_30 rfl ?_
        refine x_bipush hx hb dX11_sumSign_31 (by decide) ?_
        refine x_icmp_ne (tgt := 40) hx hb rx (by decide) dX11_sumSign_33 (by decide) (fun c4 => ?_) (fun c4 => ?_)
        · skip
          refine x_iload_n hx hb hl 0 rfl dX11_sumSign_40 rfl ?_
          refine x_bipush hx hb dX11_sumSign_41 (by decide) ?_
          refine x_icmp_ne (tgt := 51) hx hb rx (by decide) dX11_sumSign_43 (by decide) (fun c5 => ?_) (fun c5 => ?_)
          · skip
            refine x_iconst hx hb dX11_sumSign_51 ?_
            rw [eQ]
            exact x_iret hx hb hr hlk hW (by decide) ⟨rfl, by omega⟩ dX11_sumSign_52
          refine x_bipush hx hb dX11_sumSign_46 (by decide) ?_
          refine lv_goto (tgt := 52) hx hb dX11_sumSign_48 (by decide) ?_
          rw [eQ]
          exact x_iret hx hb hr hlk hW (by decide) ⟨rfl, by omega⟩ dX11_sumSign_52
        refine x_iconst hx hb dX11_sumSign_36 ?_
        refine lv_goto (tgt := 52) hx hb dX11_sumSign_37 (by decide) ?_
        rw [eQ]
        exact x_iret hx hb hr hlk hW (by decide) ⟨rfl, by omega⟩ dX11_sumSign_52
      refine x_iconst hx hb dX11_sumSign_26 ?_
      refine lv_goto (tgt := 52) hx hb dX11_sumSign_27 (by decide) ?_
      rw [eQ]
      exact x_iret hx hb hr hlk hW (by decide) ⟨rfl, by omega⟩ dX11_sumSign_52
    refine x_iconst hx hb dX11_sumSign_16 ?_
    refine lv_goto (tgt := 52) hx hb dX11_sumSign_17 (by decide) ?_
    rw [eQ]
    exact x_iret hx hb hr hlk hW (by decide) ⟨rfl, by omega⟩ dX11_sumSign_52
  refine x_iconst hx hb dX11_sumSign_6 ?_
  refine lv_goto (tgt := 52) hx hb dX11_sumSign_7 (by decide) ?_
  rw [eQ]
  exact x_iret hx hb hr hlk hW (by decide) ⟨rfl, by omega⟩ dX11_sumSign_52
set_option maxHeartbeats 4000000 in
set_option maxRecDepth 100000 in
theorem c_X11_isClauseK (l : Launch) (D : va_G) (g : xG) (T : Nat × Nat × Nat) (h0 : Nat) (s0 : xS) (hσ : xRR s0) (x : Int) (rx : xR x) : Met l yX11_isClause (xws yX11_isClause cX11_isClause 1 (some .boolean)) { frames := 0, cells := 0, slots := 0, locals := 0 } (xP [.int (xJ x)] D g T h0 s0) (xQi D g h0 (fun r τ => s0 = τ ∧ ((r = 1 ∧ (x = 97 ∨ x = 108 ∨ x = 99 ∨ x = 110 ∨ x = 118 ∨ x = 111)) ∨ (r = 0 ∧ ¬ (x = 97 ∨ x = 108 ∨ x = 99 ∨ x = 110 ∨ x = 118 ∨ x = 111))))) 0 0 (xA h0) := by
  refine x_met hσ (by decide) (Nat.le_of_ble_eq_true rfl) ?_
  intro p e s m args below meth c hx hb hr hml hown hT hlk hnm hE hW ls hl
  have hl : lv_has ls 1 [(0, .int (xJ x))] := hl
  obtain ⟨Q, eQ⟩ : ∃ Q, Q = MQ below (xQi D g h0 (fun r τ => s0 = τ ∧ ((r = 1 ∧ (x = 97 ∨ x = 108 ∨ x = 99 ∨ x = 110 ∨ x = 118 ∨ x = 111)) ∨ (r = 0 ∧ ¬ (x = 97 ∨ x = 108 ∨ x = 99 ∨ x = 110 ∨ x = 118 ∨ x = 111))))) args s 0 0 (xA h0) := ⟨_, rfl⟩
  rw [← eQ]
  generalize hHe : ([] : List Loc) = locs at hW ⊢
  obtain ⟨H, eH⟩ : ∃ H, H = s.heap := ⟨_, rfl⟩
  rw [← eH] at hW ⊢
  refine x_iload_n hx hb hl 0 rfl dX11_isClause_0 rfl ?_
  refine x_bipush hx hb dX11_isClause_1 (by decide) ?_
  refine x_icmp_eq (tgt := 36) hx hb rx (by decide) dX11_isClause_3 (by decide) (fun c1 => ?_) (fun c1 => ?_)
  · skip
    refine x_iconst hx hb dX11_isClause_36 ?_
    refine lv_goto (tgt := 41) hx hb dX11_isClause_37 (by decide) ?_
    rw [eQ]
    exact x_zret hx hb hr hlk hW (by omega) ⟨rfl, by omega⟩ dX11_isClause_41
  refine x_iload_n hx hb hl 0 rfl dX11_isClause_6 rfl ?_
  refine x_bipush hx hb dX11_isClause_7 (by decide) ?_
  refine x_icmp_eq (tgt := 36) hx hb rx (by decide) dX11_isClause_9 (by decide) (fun c2 => ?_) (fun c2 => ?_)
  · skip
    refine x_iconst hx hb dX11_isClause_36 ?_
    refine lv_goto (tgt := 41) hx hb dX11_isClause_37 (by decide) ?_
    rw [eQ]
    exact x_zret hx hb hr hlk hW (by omega) ⟨rfl, by omega⟩ dX11_isClause_41
  refine x_iload_n hx hb hl 0 rfl dX11_isClause_12 rfl ?_
  refine x_bipush hx hb dX11_isClause_13 (by decide) ?_
  refine x_icmp_eq (tgt := 36) hx hb rx (by decide) dX11_isClause_15 (by decide) (fun c3 => ?_) (fun c3 => ?_)
  · skip
    refine x_iconst hx hb dX11_isClause_36 ?_
    refine lv_goto (tgt := 41) hx hb dX11_isClause_37 (by decide) ?_
    rw [eQ]
    exact x_zret hx hb hr hlk hW (by omega) ⟨rfl, by omega⟩ dX11_isClause_41
  refine x_iload_n hx hb hl 0 rfl dX11_isClause_18 rfl ?_
  refine x_bipush hx hb dX11_isClause_19 (by decide) ?_
  refine x_icmp_eq (tgt := 36) hx hb rx (by decide) dX11_isClause_21 (by decide) (fun c4 => ?_) (fun c4 => ?_)
  · skip
    refine x_iconst hx hb dX11_isClause_36 ?_
    refine lv_goto (tgt := 41) hx hb dX11_isClause_37 (by decide) ?_
    rw [eQ]
    exact x_zret hx hb hr hlk hW (by omega) ⟨rfl, by omega⟩ dX11_isClause_41
  refine x_iload_n hx hb hl 0 rfl dX11_isClause_24 rfl ?_
  refine x_bipush hx hb dX11_isClause_25 (by decide) ?_
  refine x_icmp_eq (tgt := 36) hx hb rx (by decide) dX11_isClause_27 (by decide) (fun c5 => ?_) (fun c5 => ?_)
  · skip
    refine x_iconst hx hb dX11_isClause_36 ?_
    refine lv_goto (tgt := 41) hx hb dX11_isClause_37 (by decide) ?_
    rw [eQ]
    exact x_zret hx hb hr hlk hW (by omega) ⟨rfl, by omega⟩ dX11_isClause_41
  refine x_iload_n hx hb hl 0 rfl dX11_isClause_30 rfl ?_
  refine x_bipush hx hb dX11_isClause_31 (by decide) ?_
  refine x_icmp_ne (tgt := 40) hx hb rx (by decide) dX11_isClause_33 (by decide) (fun c6 => ?_) (fun c6 => ?_)
  · skip
    refine x_iconst hx hb dX11_isClause_40 ?_
    rw [eQ]
    exact x_zret hx hb hr hlk hW (by omega) ⟨rfl, by omega⟩ dX11_isClause_41
  refine x_iconst hx hb dX11_isClause_36 ?_
  refine lv_goto (tgt := 41) hx hb dX11_isClause_37 (by decide) ?_
  rw [eQ]
  exact x_zret hx hb hr hlk hW (by omega) ⟨rfl, by omega⟩ dX11_isClause_41
set_option maxHeartbeats 4000000 in
set_option maxRecDepth 100000 in
theorem c_X11_notesK (l : Launch) (D : va_G) (g : xG) (T : Nat × Nat × Nat) (h0 : Nat) (s0 : xS) (hσ : xRR s0) (o : Int) (ro : xR o) (v : Int) (rv : xR v) (hn : 0 ≤ s0 268 14 ∧ s0 268 14 ≤ 259) (ho : 0 ≤ o ∧ o ≤ 14) (hv : 0 ≤ v ∧ v < 1048576) (p0 : IMn s0) (p1 : IMk s0) (p2 : IMo s0) (p3 : IR s0) : Met l yX11_notes (xws yX11_notes cX11_notes 3 none) { frames := 0, cells := 0, slots := 0, locals := 0 } (xP [.ref (h0 + 268), .int (xJ o), .int (xJ v)] D g T h0 s0) (xQv D g h0 (fun τ => xFr (fun k => k = 268 ∨ k = 277) s0 τ ∧ (((IMn τ) ∧ (IMk τ) ∧ (IMo τ) ∧ (IR τ) ∧ (τ 268 8 = s0 268 8) ∧ (τ 268 58 = s0 268 58) ∧ (τ 268 17 = s0 268 17) ∧ (τ 268 9 = s0 268 9) ∧ (τ 268 10 = s0 268 10) ∧ (τ 268 13 = s0 268 13) ∧ (τ 268 15 = s0 268 15) ∧ (τ 268 16 = s0 268 16) ∧ (τ 268 48 = s0 268 48) ∧ True) ∧ (τ 277 = xud (s0 277) (s0 268 14) (1048576 * o + v) ∧ τ 268 14 = s0 268 14 + 1)))) 0 0 (xA h0) := by
  refine x_met hσ (by decide) (Nat.le_of_ble_eq_true rfl) ?_
  intro p e s m args below meth c hx hb hr hml hown hT hlk hnm hE hW ls hl
  have hl : lv_has ls 3 [(0, .ref (h0 + 268)), (1, .int (xJ o)), (2, .int (xJ v))] := hl
  obtain ⟨Q, eQ⟩ : ∃ Q, Q = MQ below (xQv D g h0 (fun τ => xFr (fun k => k = 268 ∨ k = 277) s0 τ ∧ (((IMn τ) ∧ (IMk τ) ∧ (IMo τ) ∧ (IR τ) ∧ (τ 268 8 = s0 268 8) ∧ (τ 268 58 = s0 268 58) ∧ (τ 268 17 = s0 268 17) ∧ (τ 268 9 = s0 268 9) ∧ (τ 268 10 = s0 268 10) ∧ (τ 268 13 = s0 268 13) ∧ (τ 268 15 = s0 268 15) ∧ (τ 268 16 = s0 268 16) ∧ (τ 268 48 = s0 268 48) ∧ True) ∧ (τ 277 = xud (s0 277) (s0 268 14) (1048576 * o + v) ∧ τ 268 14 = s0 268 14 + 1)))) args s 0 0 (xA h0) := ⟨_, rfl⟩
  rw [← eQ]
  generalize hHe : ([] : List Loc) = locs at hW ⊢
  obtain ⟨H, eH⟩ : ∃ H, H = s.heap := ⟨_, rfl⟩
  rw [← eH] at hW ⊢
  have hF : xFr (fun k => k = 268 ∨ k = 277) s0 s0 := xFr.rf
  have k268_8 : s0 268 8 = s0 268 8 := rfl
  have k268_58 : s0 268 58 = s0 268 58 := rfl
  have k268_17 : s0 268 17 = s0 268 17 := rfl
  have k268_9 : s0 268 9 = s0 268 9 := rfl
  have k268_10 : s0 268 10 = s0 268 10 := rfl
  have k268_13 : s0 268 13 = s0 268 13 := rfl
  have k268_15 : s0 268 15 = s0 268 15 := rfl
  have k268_16 : s0 268 16 = s0 268 16 := rfl
  have k268_48 : s0 268 48 = s0 268 48 := rfl
  refine x_aload_n hx hb hl 0 rfl dX11_notes_0 rfl ?_
  refine x_get (j := 18) (v := .ref (h0 + 277)) hx hb hown hT hE hW cls_X11 (Or.inl (by decide)) (so_268 h0 g _) (by decide) rfl wq1203 dX11_notes_1 ?_
  refine x_aload_n hx hb hl 0 rfl dX11_notes_4 rfl ?_
  refine x_get (j := 14) (v := .int (xJ (s0 268 14))) hx hb hown hT hE hW cls_X11 (Or.inl (by decide)) (so_268 h0 g _) (by decide) rfl wq1199 dX11_notes_5 ?_
  refine x_rd hW (fun x1 ex1 rx1 => ?_)
  have q2 : s0 268 14 = x1 := ex1.symm
  refine lv_ldc (v := xJ 1048576) hx hb hown (hT _ wq1482) dX11_notes_8 ?_
  refine x_iload_n hx hb hl 1 rfl dX11_notes_10 rfl ?_
  refine x_imul hx hb dX11_notes_11 ?_
  refine x_iload_n hx hb hl 2 rfl dX11_notes_12 rfl ?_
  refine x_iadd hx hb dX11_notes_13 ?_
  refine x_iast hx hb hE hW (by decide) (fun σ => sa_277 h0 g σ) (by omega) (by decide) (by omega) dX11_notes_14 (fun H locs s3 es3 hW => ?_)
  have q4 : IMn s3 := by rw [es3]; exact IMn_o (by unfold suIMn; first | decide | omega) p0
  have q5 : IMk s3 := by rw [es3]; exact IMk_o (by unfold suIMk; first | decide | omega) p1
  have q6 : IMo s3 := by rw [es3]; exact IMo_o (by unfold suIMo; first | decide | omega) p2
  have q7 : IR s3 := by rw [es3]; exact IR_o (by unfold suIR; first | decide | omega) p3
  have q8 : s3 268 8 = s0 268 8 := (show s3 268 8 = s0 268 8 from by rw [es3, xU_k _ _ _ (by first | decide | omega)]).trans k268_8
  have q9 : s3 268 58 = s0 268 58 := (show s3 268 58 = s0 268 58 from by rw [es3, xU_k _ _ _ (by first | decide | omega)]).trans k268_58
  have q10 : s3 268 17 = s0 268 17 := (show s3 268 17 = s0 268 17 from by rw [es3, xU_k _ _ _ (by first | decide | omega)]).trans k268_17
  have q11 : s3 268 9 = s0 268 9 := (show s3 268 9 = s0 268 9 from by rw [es3, xU_k _ _ _ (by first | decide | omega)]).trans k268_9
  have q12 : s3 268 10 = s0 268 10 := (show s3 268 10 = s0 268 10 from by rw [es3, xU_k _ _ _ (by first | decide | omega)]).trans k268_10
  have q13 : s3 268 13 = s0 268 13 := (show s3 268 13 = s0 268 13 from by rw [es3, xU_k _ _ _ (by first | decide | omega)]).trans k268_13
  have q14 : s3 268 15 = s0 268 15 := (show s3 268 15 = s0 268 15 from by rw [es3, xU_k _ _ _ (by first | decide | omega)]).trans k268_15
  have q15 : s3 268 16 = s0 268 16 := (show s3 268 16 = s0 268 16 from by rw [es3, xU_k _ _ _ (by first | decide | omega)]).trans k268_16
  have q16 : s3 268 48 = s0 268 48 := (show s3 268 48 = s0 268 48 from by rw [es3, xU_k _ _ _ (by first | decide | omega)]).trans k268_48
  have q17 : s3 268 14 = x1 := (show s3 268 14 = s0 268 14 from by rw [es3, xU_k _ _ _ (by first | decide | omega)]).trans q2
  have hF18 := hF.put es3 (by omega)
  have E14 := es3
  have I14 : x1 = s0 268 14 := by omega
  refine x_aload_n hx hb hl 0 rfl dX11_notes_15 rfl ?_
  refine x_aload_n hx hb hl 0 rfl dX11_notes_16 rfl ?_
  refine x_get (j := 14) (v := .int (xJ (s3 268 14))) hx hb hown hT hE hW cls_X11 (Or.inl (by decide)) (so_268 h0 g _) (by decide) rfl wq1199 dX11_notes_17 ?_
  refine x_rd hW (fun x19 ex19 rx19 => ?_)
  have fx19 : x19 = x1 := ex19.trans q17
  refine x_iconst hx hb dX11_notes_20 ?_
  refine x_iadd hx hb dX11_notes_21 ?_
  refine x_put (j := 14) hx hb hown hT hE hW cls_X11 (by decide) (fun σ => so_268 h0 g σ) (by decide) (st_X11_14 h0 s3 268 (x19 + 1)) (ln_X11_14 h0 _ _) wq1199 rfl rfl rfl (by omega) dX11_notes_22 (fun H locs s20 es20 hW => ?_)
  have q21 : IMn s20 := by rw [es20]; exact IMn_268 q4 (by omega)
  have q22 : IMk s20 := by rw [es20]; exact IMk_268 q5 (by omega)
  have q23 : IMo s20 := by rw [es20]; exact IMo_o (by unfold suIMo; first | decide | omega) q6
  have q24 : IR s20 := by rw [es20]; exact IR_268 q7 (by omega)
  have q25 : s20 268 8 = s0 268 8 := (show s20 268 8 = s3 268 8 from by rw [es20, xU_j _ _ (by decide)]).trans q8
  have q26 : s20 268 58 = s0 268 58 := (show s20 268 58 = s3 268 58 from by rw [es20, xU_j _ _ (by decide)]).trans q9
  have q27 : s20 268 17 = s0 268 17 := (show s20 268 17 = s3 268 17 from by rw [es20, xU_j _ _ (by decide)]).trans q10
  have q28 : s20 268 9 = s0 268 9 := (show s20 268 9 = s3 268 9 from by rw [es20, xU_j _ _ (by decide)]).trans q11
  have q29 : s20 268 10 = s0 268 10 := (show s20 268 10 = s3 268 10 from by rw [es20, xU_j _ _ (by decide)]).trans q12
  have q30 : s20 268 13 = s0 268 13 := (show s20 268 13 = s3 268 13 from by rw [es20, xU_j _ _ (by decide)]).trans q13
  have q31 : s20 268 15 = s0 268 15 := (show s20 268 15 = s3 268 15 from by rw [es20, xU_j _ _ (by decide)]).trans q14
  have q32 : s20 268 16 = s0 268 16 := (show s20 268 16 = s3 268 16 from by rw [es20, xU_j _ _ (by decide)]).trans q15
  have q33 : s20 268 48 = s0 268 48 := (show s20 268 48 = s3 268 48 from by rw [es20, xU_j _ _ (by decide)]).trans q16
  have q34 : s20 268 14 = (x19 + 1) := by rw [es20, xU_s]
  have hF35 := hF18.put es20 (by omega)
  have E22 := es20
  rw [eQ]
  exact x_vret hx hb hr hlk hW ⟨hF35, ⟨q21, q22, q23, q24, q25, q26, q27, q28, q29, q30, q31, q32, q33, trivial⟩, ⟨by rw [E22, xU_k _ _ _ (by first | decide | omega), E14, xU_xud, I14], by omega⟩⟩ dX11_notes_25
set_option maxHeartbeats 4000000 in
set_option maxRecDepth 100000 in
theorem c_X11_opensK (l : Launch) (D : va_G) (g : xG) (T : Nat × Nat × Nat) (h0 : Nat) (s0 : xS) (hσ : xRR s0) (o : Int) (ro : xR o) (hp : s0 268 9 < s0 268 10) (hw : 0 ≤ s0 268 15 ∧ s0 268 15 ≤ 259) (ho : 0 ≤ o ∧ o ≤ 14) (hop : 0 ≤ s0 268 13 ∧ s0 268 13 ≤ 6) (p0 : IMn s0) (p1 : IMk s0) (p2 : IMo s0) (p3 : IR s0) : Met l yX11_opens (xws yX11_opens cX11_opens 2 (some .boolean)) { frames := 1, cells := 0, slots := 0, locals := 22 } (xP [.ref (h0 + 268), .int (xJ o)] D g T h0 s0) (xQi D g h0 (fun r τ => xFr (fun k => k = 268 ∨ k = 278) s0 τ ∧ (((IMn τ) ∧ (IMk τ) ∧ (IMo τ) ∧ (IR τ) ∧ (τ 268 8 = s0 268 8) ∧ (τ 268 58 = s0 268 58) ∧ (τ 268 17 = s0 268 17) ∧ (τ 268 10 = s0 268 10) ∧ (τ 268 14 = s0 268 14) ∧ (τ 268 16 = s0 268 16) ∧ (τ 268 48 = s0 268 48) ∧ True) ∧ ((r = 0 ∧ s0 268 13 = 6 ∧ τ 268 11 = -5000 - s0 268 9) ∨ (r = 1 ∧ s0 268 13 < 6 ∧ τ 268 13 = s0 268 13 + 1 ∧ τ 278 = xud (s0 278) (s0 268 15) (1048576 * o) ∧ τ 268 15 = s0 268 15 + 1 ∧ τ 268 9 = s0 268 9 + 1))))) 0 0 (xA h0) := by
  refine x_met hσ (by decide) (Nat.le_of_ble_eq_true rfl) ?_
  intro p e s m args below meth c hx hb hr hml hown hT hlk hnm hE hW ls hl
  have hl : lv_has ls 2 [(0, .ref (h0 + 268)), (1, .int (xJ o))] := hl
  obtain ⟨Q, eQ⟩ : ∃ Q, Q = MQ below (xQi D g h0 (fun r τ => xFr (fun k => k = 268 ∨ k = 278) s0 τ ∧ (((IMn τ) ∧ (IMk τ) ∧ (IMo τ) ∧ (IR τ) ∧ (τ 268 8 = s0 268 8) ∧ (τ 268 58 = s0 268 58) ∧ (τ 268 17 = s0 268 17) ∧ (τ 268 10 = s0 268 10) ∧ (τ 268 14 = s0 268 14) ∧ (τ 268 16 = s0 268 16) ∧ (τ 268 48 = s0 268 48) ∧ True) ∧ ((r = 0 ∧ s0 268 13 = 6 ∧ τ 268 11 = -5000 - s0 268 9) ∨ (r = 1 ∧ s0 268 13 < 6 ∧ τ 268 13 = s0 268 13 + 1 ∧ τ 278 = xud (s0 278) (s0 268 15) (1048576 * o) ∧ τ 268 15 = s0 268 15 + 1 ∧ τ 268 9 = s0 268 9 + 1))))) args s 0 0 (xA h0) := ⟨_, rfl⟩
  rw [← eQ]
  generalize hHe : ([] : List Loc) = locs at hW ⊢
  obtain ⟨H, eH⟩ : ∃ H, H = s.heap := ⟨_, rfl⟩
  rw [← eH] at hW ⊢
  have hF : xFr (fun k => k = 268 ∨ k = 278) s0 s0 := xFr.rf
  have k268_8 : s0 268 8 = s0 268 8 := rfl
  have k268_58 : s0 268 58 = s0 268 58 := rfl
  have k268_17 : s0 268 17 = s0 268 17 := rfl
  have k268_10 : s0 268 10 = s0 268 10 := rfl
  have k268_14 : s0 268 14 = s0 268 14 := rfl
  have k268_16 : s0 268 16 = s0 268 16 := rfl
  have k268_48 : s0 268 48 = s0 268 48 := rfl
  have k268_9 : s0 268 9 = s0 268 9 := rfl
  have k268_13 : s0 268 13 = s0 268 13 := rfl
  have k268_15 : s0 268 15 = s0 268 15 := rfl
  refine x_aload_n hx hb hl 0 rfl dX11_opens_0 rfl ?_
  refine x_get (j := 13) (v := .int (xJ (s0 268 13))) hx hb hown hT hE hW cls_X11 (Or.inl (by decide)) (so_268 h0 g _) (by decide) rfl wq1198 dX11_opens_1 ?_
  refine x_rd hW (fun x1 ex1 rx1 => ?_)
  have fx1 : x1 = s0 268 13 := ex1.trans k268_13
  refine x_bipush hx hb dX11_opens_4 (by decide) ?_
  refine x_icmp_ne (tgt := 19) hx hb rx1 (by decide) dX11_opens_6 (by decide) (fun c2 => ?_) (fun c2 => ?_)
  · skip
    refine x_aload_n hx hb hl 0 rfl dX11_opens_19 rfl ?_
    refine x_aload_n hx hb hl 0 rfl dX11_opens_20 rfl ?_
    refine x_get (j := 13) (v := .int (xJ (s0 268 13))) hx hb hown hT hE hW cls_X11 (Or.inl (by decide)) (so_268 h0 g _) (by decide) rfl wq1198 dX11_opens_21 ?_
    refine x_rd hW (fun x3 ex3 rx3 => ?_)
    have fx3 : x3 = s0 268 13 := ex3.trans k268_13
    refine x_iconst hx hb dX11_opens_24 ?_
    refine x_iadd hx hb dX11_opens_25 ?_
    refine x_put (j := 13) hx hb hown hT hE hW cls_X11 (by decide) (fun σ => so_268 h0 g σ) (by decide) (st_X11_13 h0 s0 268 (x3 + 1)) (ln_X11_13 h0 _ _) wq1198 rfl rfl rfl (by omega) dX11_opens_26 (fun H locs s4 es4 hW => ?_)
    have q5 : IMn s4 := by rw [es4]; exact IMn_268 p0 (by omega)
    have q6 : IMk s4 := by rw [es4]; exact IMk_268 p1 (by omega)
    have q7 : IMo s4 := by rw [es4]; exact IMo_o (by unfold suIMo; first | decide | omega) p2
    have q8 : IR s4 := by rw [es4]; exact IR_268 p3 (by omega)
    have q9 : s4 268 8 = s0 268 8 := (show s4 268 8 = s0 268 8 from by rw [es4, xU_j _ _ (by decide)]).trans k268_8
    have q10 : s4 268 58 = s0 268 58 := (show s4 268 58 = s0 268 58 from by rw [es4, xU_j _ _ (by decide)]).trans k268_58
    have q11 : s4 268 17 = s0 268 17 := (show s4 268 17 = s0 268 17 from by rw [es4, xU_j _ _ (by decide)]).trans k268_17
    have q12 : s4 268 10 = s0 268 10 := (show s4 268 10 = s0 268 10 from by rw [es4, xU_j _ _ (by decide)]).trans k268_10
    have q13 : s4 268 14 = s0 268 14 := (show s4 268 14 = s0 268 14 from by rw [es4, xU_j _ _ (by decide)]).trans k268_14
    have q14 : s4 268 16 = s0 268 16 := (show s4 268 16 = s0 268 16 from by rw [es4, xU_j _ _ (by decide)]).trans k268_16
    have q15 : s4 268 48 = s0 268 48 := (show s4 268 48 = s0 268 48 from by rw [es4, xU_j _ _ (by decide)]).trans k268_48
    have q16 : s4 268 9 = s0 268 9 := (show s4 268 9 = s0 268 9 from by rw [es4, xU_j _ _ (by decide)]).trans k268_9
    have q17 : s4 268 13 = (x3 + 1) := by rw [es4, xU_s]
    have q18 : s4 268 15 = s0 268 15 := (show s4 268 15 = s0 268 15 from by rw [es4, xU_j _ _ (by decide)]).trans k268_15
    have hF19 := hF.put es4 (by omega)
    have E26 := es4
    refine x_aload_n hx hb hl 0 rfl dX11_opens_29 rfl ?_
    refine x_get (j := 19) (v := .ref (h0 + 278)) hx hb hown hT hE hW cls_X11 (Or.inl (by decide)) (so_268 h0 g _) (by decide) rfl wq1204 dX11_opens_30 ?_
    refine x_aload_n hx hb hl 0 rfl dX11_opens_33 rfl ?_
    refine x_get (j := 15) (v := .int (xJ (s4 268 15))) hx hb hown hT hE hW cls_X11 (Or.inl (by decide)) (so_268 h0 g _) (by decide) rfl wq1200 dX11_opens_34 ?_
    refine x_rd hW (fun x20 ex20 rx20 => ?_)
    have fx20 : x20 = s0 268 15 := ex20.trans q18
    refine lv_ldc (v := xJ 1048576) hx hb hown (hT _ wq1482) dX11_opens_37 ?_
    refine x_iload_n hx hb hl 1 rfl dX11_opens_39 rfl ?_
    refine x_imul hx hb dX11_opens_40 ?_
    refine x_iast hx hb hE hW (by decide) (fun σ => sa_278 h0 g σ) (by omega) (by decide) (by omega) dX11_opens_41 (fun H locs s21 es21 hW => ?_)
    have q22 : IMn s21 := by rw [es21]; exact IMn_o (by unfold suIMn; first | decide | omega) q5
    have q23 : IMk s21 := by rw [es21]; exact IMk_o (by unfold suIMk; first | decide | omega) q6
    have q24 : IMo s21 := by rw [es21]; exact IMo_o (by unfold suIMo; first | decide | omega) q7
    have q25 : IR s21 := by rw [es21]; exact IR_o (by unfold suIR; first | decide | omega) q8
    have q26 : s21 268 8 = s0 268 8 := (show s21 268 8 = s4 268 8 from by rw [es21, xU_k _ _ _ (by first | decide | omega)]).trans q9
    have q27 : s21 268 58 = s0 268 58 := (show s21 268 58 = s4 268 58 from by rw [es21, xU_k _ _ _ (by first | decide | omega)]).trans q10
    have q28 : s21 268 17 = s0 268 17 := (show s21 268 17 = s4 268 17 from by rw [es21, xU_k _ _ _ (by first | decide | omega)]).trans q11
    have q29 : s21 268 10 = s0 268 10 := (show s21 268 10 = s4 268 10 from by rw [es21, xU_k _ _ _ (by first | decide | omega)]).trans q12
    have q30 : s21 268 14 = s0 268 14 := (show s21 268 14 = s4 268 14 from by rw [es21, xU_k _ _ _ (by first | decide | omega)]).trans q13
    have q31 : s21 268 16 = s0 268 16 := (show s21 268 16 = s4 268 16 from by rw [es21, xU_k _ _ _ (by first | decide | omega)]).trans q14
    have q32 : s21 268 48 = s0 268 48 := (show s21 268 48 = s4 268 48 from by rw [es21, xU_k _ _ _ (by first | decide | omega)]).trans q15
    have q33 : s21 268 9 = s0 268 9 := (show s21 268 9 = s4 268 9 from by rw [es21, xU_k _ _ _ (by first | decide | omega)]).trans q16
    have q34 : s21 268 13 = (x3 + 1) := (show s21 268 13 = s4 268 13 from by rw [es21, xU_k _ _ _ (by first | decide | omega)]).trans q17
    have q35 : s21 268 15 = s0 268 15 := (show s21 268 15 = s4 268 15 from by rw [es21, xU_k _ _ _ (by first | decide | omega)]).trans q18
    have hF36 := hF19.put es21 (by omega)
    have E41 := es21
    have I41 : x20 = s0 268 15 := by omega
    refine x_aload_n hx hb hl 0 rfl dX11_opens_42 rfl ?_
    refine x_aload_n hx hb hl 0 rfl dX11_opens_43 rfl ?_
    refine x_get (j := 15) (v := .int (xJ (s21 268 15))) hx hb hown hT hE hW cls_X11 (Or.inl (by decide)) (so_268 h0 g _) (by decide) rfl wq1200 dX11_opens_44 ?_
    refine x_rd hW (fun x37 ex37 rx37 => ?_)
    have fx37 : x37 = s0 268 15 := ex37.trans q35
    refine x_iconst hx hb dX11_opens_47 ?_
    refine x_iadd hx hb dX11_opens_48 ?_
    refine x_put (j := 15) hx hb hown hT hE hW cls_X11 (by decide) (fun σ => so_268 h0 g σ) (by decide) (st_X11_15 h0 s21 268 (x37 + 1)) (ln_X11_15 h0 _ _) wq1200 rfl rfl rfl (by omega) dX11_opens_49 (fun H locs s38 es38 hW => ?_)
    have q39 : IMn s38 := by rw [es38]; exact IMn_268 q22 (by omega)
    have q40 : IMk s38 := by rw [es38]; exact IMk_268 q23 (by omega)
    have q41 : IMo s38 := by rw [es38]; exact IMo_o (by unfold suIMo; first | decide | omega) q24
    have q42 : IR s38 := by rw [es38]; exact IR_268 q25 (by omega)
    have q43 : s38 268 8 = s0 268 8 := (show s38 268 8 = s21 268 8 from by rw [es38, xU_j _ _ (by decide)]).trans q26
    have q44 : s38 268 58 = s0 268 58 := (show s38 268 58 = s21 268 58 from by rw [es38, xU_j _ _ (by decide)]).trans q27
    have q45 : s38 268 17 = s0 268 17 := (show s38 268 17 = s21 268 17 from by rw [es38, xU_j _ _ (by decide)]).trans q28
    have q46 : s38 268 10 = s0 268 10 := (show s38 268 10 = s21 268 10 from by rw [es38, xU_j _ _ (by decide)]).trans q29
    have q47 : s38 268 14 = s0 268 14 := (show s38 268 14 = s21 268 14 from by rw [es38, xU_j _ _ (by decide)]).trans q30
    have q48 : s38 268 16 = s0 268 16 := (show s38 268 16 = s21 268 16 from by rw [es38, xU_j _ _ (by decide)]).trans q31
    have q49 : s38 268 48 = s0 268 48 := (show s38 268 48 = s21 268 48 from by rw [es38, xU_j _ _ (by decide)]).trans q32
    have q50 : s38 268 9 = s0 268 9 := (show s38 268 9 = s21 268 9 from by rw [es38, xU_j _ _ (by decide)]).trans q33
    have q51 : s38 268 13 = (x3 + 1) := (show s38 268 13 = s21 268 13 from by rw [es38, xU_j _ _ (by decide)]).trans q34
    have q52 : s38 268 15 = (x37 + 1) := by rw [es38, xU_s]
    have hF53 := hF36.put es38 (by omega)
    have E49 := es38
    refine x_aload_n hx hb hl 0 rfl dX11_opens_52 rfl ?_
    refine x_aload_n hx hb hl 0 rfl dX11_opens_53 rfl ?_
    refine x_get (j := 9) (v := .int (xJ (s38 268 9))) hx hb hown hT hE hW cls_X11 (Or.inl (by decide)) (so_268 h0 g _) (by decide) rfl wq1194 dX11_opens_54 ?_
    refine x_rd hW (fun x54 ex54 rx54 => ?_)
    have bx54 : 0 ≤ x54 ∧ x54 ≤ s38 268 10 ∧ s38 268 10 ≤ 240 := by rw [ex54]; exact q42
    have fx54 : x54 = s0 268 9 := ex54.trans q50
    refine x_iconst hx hb dX11_opens_57 ?_
    refine x_iadd hx hb dX11_opens_58 ?_
    refine x_put (j := 9) hx hb hown hT hE hW cls_X11 (by decide) (fun σ => so_268 h0 g σ) (by decide) (st_X11_9 h0 s38 268 (x54 + 1)) (ln_X11_9 h0 _ _) wq1194 rfl rfl rfl (by omega) dX11_opens_59 (fun H locs s55 es55 hW => ?_)
    have q56 : IMn s55 := by rw [es55]; exact IMn_268 q39 (by omega)
    have q57 : IMk s55 := by rw [es55]; exact IMk_268 q40 (by omega)
    have q58 : IMo s55 := by rw [es55]; exact IMo_o (by unfold suIMo; first | decide | omega) q41
    have q59 : IR s55 := by rw [es55]; exact IR_268 q42 (by omega)
    have q60 : s55 268 8 = s0 268 8 := (show s55 268 8 = s38 268 8 from by rw [es55, xU_j _ _ (by decide)]).trans q43
    have q61 : s55 268 58 = s0 268 58 := (show s55 268 58 = s38 268 58 from by rw [es55, xU_j _ _ (by decide)]).trans q44
    have q62 : s55 268 17 = s0 268 17 := (show s55 268 17 = s38 268 17 from by rw [es55, xU_j _ _ (by decide)]).trans q45
    have q63 : s55 268 10 = s0 268 10 := (show s55 268 10 = s38 268 10 from by rw [es55, xU_j _ _ (by decide)]).trans q46
    have q64 : s55 268 14 = s0 268 14 := (show s55 268 14 = s38 268 14 from by rw [es55, xU_j _ _ (by decide)]).trans q47
    have q65 : s55 268 16 = s0 268 16 := (show s55 268 16 = s38 268 16 from by rw [es55, xU_j _ _ (by decide)]).trans q48
    have q66 : s55 268 48 = s0 268 48 := (show s55 268 48 = s38 268 48 from by rw [es55, xU_j _ _ (by decide)]).trans q49
    have q67 : s55 268 9 = (x54 + 1) := by rw [es55, xU_s]
    have q68 : s55 268 13 = (x3 + 1) := (show s55 268 13 = s38 268 13 from by rw [es55, xU_j _ _ (by decide)]).trans q51
    have q69 : s55 268 15 = (x37 + 1) := (show s55 268 15 = s38 268 15 from by rw [es55, xU_j _ _ (by decide)]).trans q52
    have hF70 := hF53.put es55 (by omega)
    have E62 := es55
    refine x_iconst hx hb dX11_opens_62 ?_
    rw [eQ]
    exact x_zret hx hb hr hlk hW (by omega) ⟨hF70, ⟨q56, q57, q58, q59, q60, q61, q62, q63, q64, q65, q66, trivial⟩, Or.inr ⟨by omega, by omega, by omega, by rw [E62, xU_k _ _ _ (by first | decide | omega), E49, xU_k _ _ _ (by first | decide | omega), E41, xU_xud, I41, E26, xU_k _ _ _ (by first | decide | omega)], by omega, by omega⟩⟩ dX11_opens_63
  refine x_aload_n hx hb hl 0 rfl dX11_opens_9 rfl ?_
  refine x_iconst hx hb dX11_opens_10 ?_
  refine x_aload_n hx hb hl 0 rfl dX11_opens_11 rfl ?_
  refine x_get (j := 9) (v := .int (xJ (s0 268 9))) hx hb hown hT hE hW cls_X11 (Or.inl (by decide)) (so_268 h0 g _) (by decide) rfl wq1194 dX11_opens_12 ?_
  refine x_rd hW (fun x71 ex71 rx71 => ?_)
  have bx71 : 0 ≤ x71 ∧ x71 ≤ s0 268 10 ∧ s0 268 10 ≤ 240 := by rw [ex71]; exact p3
  have fx71 : x71 = s0 268 9 := ex71.trans k268_9
  refine x_goi (x_runV (As := [.int (xJ 5), .int (xJ x71)]) hx hb hml hown hT hE hW hl.1 (Or.inl (by decide)) (so_268 h0 g _) rfl cf_X11_wrongAt wq1401 wq107 wq1399 (c_X11_wrongAtK l D g T h0 s0 hW.2.1 5 (by decide) x71 rx71 (by omega) p0 p1 p2 p3) ⟨rfl, rfl, ⟨by decide, by decide⟩, ⟨by decide, by decide⟩⟩ rfl rfl (Nat.le_of_ble_eq_true rfl) dX11_opens_15) hW (fun x72 s73 H locs rx72 hp74 hW => ?_)
  obtain ⟨fs73, hp74⟩ := hp74
  have hF75 := hF.call fs73 (fun k h => by omega)
  have ghp74 := hp74.2
  rw [eQ]
  exact x_zret hx hb hr hlk hW (by omega) ⟨hF75, ⟨hp74.1.1, hp74.1.2.1, hp74.1.2.2.1, hp74.1.2.2.2.1, (hp74.1.2.2.2.2.1.trans k268_8), (hp74.1.2.2.2.2.2.1.trans k268_58), (hp74.1.2.2.2.2.2.2.1.trans k268_17), (hp74.1.2.2.2.2.2.2.2.2.1.trans k268_10), (hp74.1.2.2.2.2.2.2.2.2.2.2.1.trans k268_14), (hp74.1.2.2.2.2.2.2.2.2.2.2.2.2.1.trans k268_16), (hp74.1.2.2.2.2.2.2.2.2.2.2.2.2.2.1.trans k268_48), trivial⟩, Or.inl ⟨by omega, by omega, by omega⟩⟩ dX11_opens_18
set_option maxHeartbeats 4000000 in
set_option maxRecDepth 100000 in
theorem c_X11_waitTopK (l : Launch) (D : va_G) (g : xG) (T : Nat × Nat × Nat) (h0 : Nat) (s0 : xS) (hσ : xRR s0) (hw : 0 ≤ s0 268 15 ∧ s0 268 15 ≤ 260 ∧ (s0 268 15 = 0 ∨ 0 ≤ s0 278 (s0 268 15 - 1))) (p0 : IMn s0) (p1 : IMk s0) (p2 : IMo s0) (p3 : IR s0) : Met l yX11_waitTop (xws yX11_waitTop cX11_waitTop 1 (some .int)) { frames := 0, cells := 0, slots := 0, locals := 0 } (xP [.ref (h0 + 268)] D g T h0 s0) (xQi D g h0 (fun r τ => s0 = τ ∧ (r = ztW s0))) 0 0 (xA h0) := by
  refine x_met hσ (by decide) (Nat.le_of_ble_eq_true rfl) ?_
  intro p e s m args below meth c hx hb hr hml hown hT hlk hnm hE hW ls hl
  have hl : lv_has ls 1 [(0, .ref (h0 + 268))] := hl
  obtain ⟨Q, eQ⟩ : ∃ Q, Q = MQ below (xQi D g h0 (fun r τ => s0 = τ ∧ (r = ztW s0))) args s 0 0 (xA h0) := ⟨_, rfl⟩
  rw [← eQ]
  generalize hHe : ([] : List Loc) = locs at hW ⊢
  obtain ⟨H, eH⟩ : ∃ H, H = s.heap := ⟨_, rfl⟩
  rw [← eH] at hW ⊢
  have k268_8 : s0 268 8 = s0 268 8 := rfl
  have k268_58 : s0 268 58 = s0 268 58 := rfl
  have k268_17 : s0 268 17 = s0 268 17 := rfl
  have k268_48 : s0 268 48 = s0 268 48 := rfl
  refine x_aload_n hx hb hl 0 rfl dX11_waitTop_0 rfl ?_
  refine x_get (j := 15) (v := .int (xJ (s0 268 15))) hx hb hown hT hE hW cls_X11 (Or.inl (by decide)) (so_268 h0 g _) (by decide) rfl wq1200 dX11_waitTop_1 ?_
  refine x_rd hW (fun x1 ex1 rx1 => ?_)
  refine x_if_ne (tgt := 11) hx hb rx1 dX11_waitTop_4 (by decide) (fun c2 => ?_) (fun c2 => ?_)
  · skip
    refine x_aload_n hx hb hl 0 rfl dX11_waitTop_11 rfl ?_
    refine x_get (j := 19) (v := .ref (h0 + 278)) hx hb hown hT hE hW cls_X11 (Or.inl (by decide)) (so_268 h0 g _) (by decide) rfl wq1204 dX11_waitTop_12 ?_
    refine x_aload_n hx hb hl 0 rfl dX11_waitTop_15 rfl ?_
    refine x_get (j := 15) (v := .int (xJ (s0 268 15))) hx hb hown hT hE hW cls_X11 (Or.inl (by decide)) (so_268 h0 g _) (by decide) rfl wq1200 dX11_waitTop_16 ?_
    refine x_rd hW (fun x3 ex3 rx3 => ?_)
    refine x_iconst hx hb dX11_waitTop_19 ?_
    refine x_isub hx hb dX11_waitTop_20 ?_
    refine x_iald hx hb hE hW (Or.inl (by decide)) (sa_278 h0 g _) (by omega) (by decide) dX11_waitTop_21 ?_
    refine x_rd hW (fun x4 ex4 rx4 => ?_)
    have V21 : x4 = s0 278 (s0 268 15 - 1) := by rw [ex4, show (x3 - 1) = s0 268 15 - 1 from by omega]
    refine lv_ldc (v := xJ 1048576) hx hb hown (hT _ wq1482) dX11_waitTop_22 ?_
    refine x_idiv hx hb rx4 (by decide) (by omega) (by decide) dX11_waitTop_24 ?_
    rw [eQ]
    exact x_iret hx hb hr hlk hW (by omega) ⟨rfl, by first | (rw [ztW_0 (by omega)]) | (rw [ztW_1 (by omega), ← V21])⟩ dX11_waitTop_25
  refine x_iconst hx hb dX11_waitTop_7 ?_
  refine lv_goto (tgt := 25) hx hb dX11_waitTop_8 (by decide) ?_
  rw [eQ]
  exact x_iret hx hb hr hlk hW (by decide) ⟨rfl, by first | (rw [ztW_0 (by omega)]) | (rw [ztW_1 (by omega), ← V21])⟩ dX11_waitTop_25
set_option maxHeartbeats 4000000 in
set_option maxRecDepth 100000 in
theorem c_X11_readsNumberK (l : Launch) (D : va_G) (g : xG) (T : Nat × Nat × Nat) (h0 : Nat) (s0 : xS) (hσ : xRR s0) (f9 : Int → Int) (n9 : Int) (hf : xm8 (s0 276) = f9 ∧ s0 268 10 = n9) (hd : zdg (zch f9 n9 (s0 268 9))) (p0 : IMn s0) (p1 : IMk s0) (p2 : IMo s0) (p3 : IR s0) : Met l yX11_readsNumber (xws yX11_readsNumber cX11_readsNumber 2 (some .boolean)) { frames := 2, cells := 0, slots := 0, locals := 40 } (xP [.ref (h0 + 268)] D g T h0 s0) (xQi D g h0 (fun r τ => xFr (fun k => k = 268) s0 τ ∧ (((IMn τ) ∧ (IMk τ) ∧ (IMo τ) ∧ (IR τ) ∧ (τ 268 8 = s0 268 8) ∧ (τ 268 58 = s0 268 58) ∧ (τ 268 17 = s0 268 17) ∧ (τ 268 10 = s0 268 10) ∧ (τ 268 13 = s0 268 13) ∧ (τ 268 14 = s0 268 14) ∧ (τ 268 15 = s0 268 15) ∧ (τ 268 16 = s0 268 16) ∧ (τ 268 48 = s0 268 48) ∧ True) ∧ ((r = 0 ∧ zdg (zch f9 n9 (znr f9 n9 5 (s0 268 9) 0).1) ∧ τ 268 11 = -2000 - (znr f9 n9 5 (s0 268 9) 0).1) ∨ (r = 1 ∧ ¬ zdg (zch f9 n9 (znr f9 n9 5 (s0 268 9) 0).1) ∧ τ 268 9 = (znr f9 n9 5 (s0 268 9) 0).1 ∧ τ 268 12 = (znr f9 n9 5 (s0 268 9) 0).2))))) 0 0 (xA h0) := by
  refine x_met hσ (by decide) (Nat.le_of_ble_eq_true rfl) ?_
  intro p e s m args below meth c hx hb hr hml hown hT hlk hnm hE hW ls hl
  have hl : lv_has ls 2 [(0, .ref (h0 + 268))] := hl
  obtain ⟨Q, eQ⟩ : ∃ Q, Q = MQ below (xQi D g h0 (fun r τ => xFr (fun k => k = 268) s0 τ ∧ (((IMn τ) ∧ (IMk τ) ∧ (IMo τ) ∧ (IR τ) ∧ (τ 268 8 = s0 268 8) ∧ (τ 268 58 = s0 268 58) ∧ (τ 268 17 = s0 268 17) ∧ (τ 268 10 = s0 268 10) ∧ (τ 268 13 = s0 268 13) ∧ (τ 268 14 = s0 268 14) ∧ (τ 268 15 = s0 268 15) ∧ (τ 268 16 = s0 268 16) ∧ (τ 268 48 = s0 268 48) ∧ True) ∧ ((r = 0 ∧ zdg (zch f9 n9 (znr f9 n9 5 (s0 268 9) 0).1) ∧ τ 268 11 = -2000 - (znr f9 n9 5 (s0 268 9) 0).1) ∨ (r = 1 ∧ ¬ zdg (zch f9 n9 (znr f9 n9 5 (s0 268 9) 0).1) ∧ τ 268 9 = (znr f9 n9 5 (s0 268 9) 0).1 ∧ τ 268 12 = (znr f9 n9 5 (s0 268 9) 0).2))))) args s 0 0 (xA h0) := ⟨_, rfl⟩
  rw [← eQ]
  generalize hHe : ([] : List Loc) = locs at hW ⊢
  obtain ⟨H, eH⟩ : ∃ H, H = s.heap := ⟨_, rfl⟩
  rw [← eH] at hW ⊢
  have hF : xFr (fun k => k = 268) s0 s0 := xFr.rf
  have k268_8 : s0 268 8 = s0 268 8 := rfl
  have k268_58 : s0 268 58 = s0 268 58 := rfl
  have k268_17 : s0 268 17 = s0 268 17 := rfl
  have k268_10 : s0 268 10 = s0 268 10 := rfl
  have k268_13 : s0 268 13 = s0 268 13 := rfl
  have k268_14 : s0 268 14 = s0 268 14 := rfl
  have k268_15 : s0 268 15 = s0 268 15 := rfl
  have k268_16 : s0 268 16 = s0 268 16 := rfl
  have k268_48 : s0 268 48 = s0 268 48 := rfl
  have k268_9 : s0 268 9 = s0 268 9 := rfl
  have hf2 := hf.2
  refine x_aload_n hx hb hl 0 rfl dX11_readsNumber_0 rfl ?_
  refine x_get (j := 9) (v := .int (xJ (s0 268 9))) hx hb hown hT hE hW cls_X11 (Or.inl (by decide)) (so_268 h0 g _) (by decide) rfl wq1194 dX11_readsNumber_1 ?_
  refine x_rd hW (fun x1 ex1 rx1 => ?_)
  have bx1 : 0 ≤ x1 ∧ x1 ≤ s0 268 10 ∧ s0 268 10 ≤ 240 := by rw [ex1]; exact p3
  have fx1 : x1 = s0 268 9 := ex1.trans k268_9
  refine lv_istore_n (lv' := [(1, .int (xJ x1)), (0, .ref (h0 + 268))]) hx hb dX11_readsNumber_4 rfl hl (by decide) rfl (fun ls hl => ?_)
  refine x_aload_n hx hb hl 1 rfl dX11_readsNumber_5 rfl ?_
  refine x_iconst hx hb dX11_readsNumber_6 ?_
  refine x_put (j := 12) hx hb hown hT hE hW cls_X11 (by decide) (fun σ => so_268 h0 g σ) (by decide) (st_X11_12 h0 s0 268 0) (ln_X11_12 h0 _ _) wq1197 rfl rfl rfl (by decide) dX11_readsNumber_7 (fun H locs s2 es2 hW => ?_)
  have q3 : IMn s2 := by rw [es2]; exact IMn_268 p0 (by omega)
  have q4 : IMk s2 := by rw [es2]; exact IMk_268 p1 (by omega)
  have q5 : IMo s2 := by rw [es2]; exact IMo_o (by unfold suIMo; first | decide | omega) p2
  have q6 : IR s2 := by rw [es2]; exact IR_268 p3 (by omega)
  have q7 : s2 268 8 = s0 268 8 := (show s2 268 8 = s0 268 8 from by rw [es2, xU_j _ _ (by decide)]).trans k268_8
  have q8 : s2 268 58 = s0 268 58 := (show s2 268 58 = s0 268 58 from by rw [es2, xU_j _ _ (by decide)]).trans k268_58
  have q9 : s2 268 17 = s0 268 17 := (show s2 268 17 = s0 268 17 from by rw [es2, xU_j _ _ (by decide)]).trans k268_17
  have q10 : s2 268 10 = s0 268 10 := (show s2 268 10 = s0 268 10 from by rw [es2, xU_j _ _ (by decide)]).trans k268_10
  have q11 : s2 268 13 = s0 268 13 := (show s2 268 13 = s0 268 13 from by rw [es2, xU_j _ _ (by decide)]).trans k268_13
  have q12 : s2 268 14 = s0 268 14 := (show s2 268 14 = s0 268 14 from by rw [es2, xU_j _ _ (by decide)]).trans k268_14
  have q13 : s2 268 15 = s0 268 15 := (show s2 268 15 = s0 268 15 from by rw [es2, xU_j _ _ (by decide)]).trans k268_15
  have q14 : s2 268 16 = s0 268 16 := (show s2 268 16 = s0 268 16 from by rw [es2, xU_j _ _ (by decide)]).trans k268_16
  have q15 : s2 268 48 = s0 268 48 := (show s2 268 48 = s0 268 48 from by rw [es2, xU_j _ _ (by decide)]).trans k268_48
  have q16 : s2 268 9 = s0 268 9 := (show s2 268 9 = s0 268 9 from by rw [es2, xU_j _ _ (by decide)]).trans k268_9
  have q17 : s2 268 12 = 0 := by rw [es2, xU_s]
  have hF18 := hF.put es2 (by omega)
  have L10 : ∀ (fu : Nat) (s_10 : xS) (H : Heap) (locs : List Loc) (ls : Array Slot), (xFr (fun k => k = 268) s0 s_10) → (IMn s_10) → (IMk s_10) → (IMo s_10) → (IR s_10) → (s_10 268 8 = s0 268 8) → (s_10 268 58 = s0 268 58) → (s_10 268 17 = s0 268 17) → (s_10 268 10 = s0 268 10) → (s_10 268 13 = s0 268 13) → (s_10 268 14 = s0 268 14) → (s_10 268 15 = s0 268 15) → (s_10 268 16 = s0 268 16) → (s_10 268 48 = s0 268 48) → (x1 = s0 268 9 ∧ x1 ≤ s_10 268 9 ∧ s_10 268 9 ≤ x1 + 5) → ((znr f9 n9 5 (s0 268 9) 0) = znr f9 n9 (x1 + 5 - s_10 268 9).toNat (s_10 268 9) (s_10 268 12)) → (zNB (s_10 268 9 - x1) (s_10 268 12)) → (241 - s_10 268 9).toNat < fu → xW D g h0 s H locs s_10 → lv_has ls 2 [(0, .ref (h0 + 268)), (1, .int (xJ x1))] → W p l e { frames := 2, cells := 0, slots := 0, locals := 40 } s m args below meth c H locs 0 0 Q (F0 m 10 ls []) := by
    intro fu
    induction fu with
    | zero => intro s_10 H locs ls hF_10 q10_0 q10_1 q10_2 q10_3 q10_4 q10_5 q10_6 q10_7 q10_8 q10_9 q10_10 q10_11 q10_12 v10_0 v10_1 v10_2 hm; exact absurd hm (Nat.not_lt_zero _)
    | succ fu ih10 =>
      intro s_10 H locs ls hF_10 q10_0 q10_1 q10_2 q10_3 q10_4 q10_5 q10_6 q10_7 q10_8 q10_9 q10_10 q10_11 q10_12 v10_0 v10_1 v10_2 hm hW hl
      have hm_10 := fun (_ : Unit) => hm
      clear hm
      have n10 := zNB_le v10_2
      have r10 : 0 ≤ s_10 268 9 ∧ s_10 268 9 ≤ s_10 268 10 ∧ s_10 268 10 ≤ 240 := q10_3
      refine x_aload_n hx hb hl 0 rfl dX11_readsNumber_10 rfl ?_
      refine x_goi (x_runV (As := []) hx hb hml hown hT hE hW hl.1 (Or.inl (by decide)) (so_268 h0 g _) rfl cf_X11_isDigit wq1485 wq119 wq1483 (c_X11_isDigitK l D g T h0 s_10 hW.2.1 f9 n9 (by first | exact hf | exact ⟨by rw [hF_10 276 (by first | decide | omega)]; exact hf.1, by omega⟩) q10_0 q10_1 q10_2 q10_3) ⟨rfl, rfl, ⟨by decide, by decide⟩, ⟨by decide, by decide⟩⟩ rfl rfl (Nat.le_of_ble_eq_true rfl) dX11_readsNumber_11) hW (fun x19 s20 H locs rx19 hp21 hW => ?_)
      obtain ⟨es20, hp21⟩ := hp21
      subst es20
      have ghp21 := hp21
      have H11 := ghp21
      refine x_if_eq (tgt := 69) hx hb rx19 dX11_readsNumber_14 (by decide) (fun c22 => ?_) (fun c22 => ?_)
      · skip
        refine x_iconst hx hb dX11_readsNumber_69 ?_
        rw [eQ]
        exact x_zret hx hb hr hlk hW (by omega) ⟨hF_10, ⟨q10_0, q10_1, q10_2, q10_3, q10_4, q10_5, q10_6, q10_7, q10_8, q10_9, q10_10, q10_11, q10_12, trivial⟩, by
            have D9 := (H11.resolve_left (fun q => by omega)).2
            have e : (znr f9 n9 5 (s0 268 9) 0) = (s_10 268 9, s_10 268 12) := v10_1.trans (znr_no D9)
            rw [e]
            exact Or.inr ⟨by omega, D9, rfl, rfl⟩⟩ dX11_readsNumber_70
      refine x_aload_n hx hb hl 0 rfl dX11_readsNumber_17 rfl ?_
      refine x_get (j := 9) (v := .int (xJ (s_10 268 9))) hx hb hown hT hE hW cls_X11 (Or.inl (by decide)) (so_268 h0 g _) (by decide) rfl wq1194 dX11_readsNumber_18 ?_
      refine x_rd hW (fun x23 ex23 rx23 => ?_)
      have bx23 : 0 ≤ x23 ∧ x23 ≤ s_10 268 10 ∧ s_10 268 10 ≤ 240 := by rw [ex23]; exact q10_3
      have q24 : s_10 268 9 = x23 := ex23.symm
      have D11 := (H11.resolve_right (fun q => by omega)).2
      have l18 : s_10 268 9 < n9 := zch_lt (f := f9) (by have y := D11.1; omega)
      refine x_iload_n hx hb hl 1 rfl dX11_readsNumber_21 rfl ?_
      refine x_iconst hx hb dX11_readsNumber_22 ?_
      refine x_iadd hx hb dX11_readsNumber_23 ?_
      refine x_icmp_ne (tgt := 37) hx hb rx23 (by omega) dX11_readsNumber_24 (by decide) (fun c25 => ?_) (fun c25 => ?_)
      · skip
        refine x_aload_n hx hb hl 0 rfl dX11_readsNumber_37 rfl ?_
        refine x_bipush hx hb dX11_readsNumber_38 (by decide) ?_
        refine x_aload_n hx hb hl 0 rfl dX11_readsNumber_40 rfl ?_
        refine x_get (j := 12) (v := .int (xJ (s_10 268 12))) hx hb hown hT hE hW cls_X11 (Or.inl (by decide)) (so_268 h0 g _) (by decide) rfl wq1197 dX11_readsNumber_41 ?_
        refine x_rd hW (fun x26 ex26 rx26 => ?_)
        have q27 : s_10 268 12 = x26 := ex26.symm
        refine x_imul hx hb dX11_readsNumber_44 ?_
        refine x_aload_n hx hb hl 0 rfl dX11_readsNumber_45 rfl ?_
        refine x_goi (x_runV (As := []) hx hb hml hown hT hE hW hl.1 (Or.inl (by decide)) (so_268 h0 g _) rfl cf_X11_here wq1391 wq106 wq1389 (c_X11_here l D g T h0 s_10 hW.2.1 q10_0 q10_1 q10_2 q10_3) ⟨rfl, rfl, ⟨by decide, by decide⟩, ⟨by decide, by decide⟩⟩ rfl rfl (Nat.le_of_ble_eq_true rfl) dX11_readsNumber_46) hW (fun x28 s29 H locs rx28 hp30 hW => ?_)
        obtain ⟨es29, hp30⟩ := hp30
        subst es29
        have ghp30 := hp30
        have C46 : x28 = zch f9 n9 (s_10 268 9) := by
          have q8 := ghp30.1
          rw [zhC_ch, show s_10 276 = s0 276 from hF_10 276 (by first | decide | omega), hf.1, show s_10 268 10 = n9 from by omega] at q8
          exact q8
        refine x_iadd hx hb dX11_readsNumber_49 ?_
        refine x_bipush hx hb dX11_readsNumber_50 (by decide) ?_
        refine x_isub hx hb dX11_readsNumber_52 ?_
        refine x_put (j := 12) hx hb hown hT hE hW cls_X11 (by decide) (fun σ => so_268 h0 g σ) (by decide) (st_X11_12 h0 s_10 268 (((10 * x26) + x28) - 48)) (ln_X11_12 h0 _ _) wq1197 rfl rfl rfl (by omega) dX11_readsNumber_53 (fun H locs s31 es31 hW => ?_)
        have q32 : IMn s31 := by rw [es31]; exact IMn_268 q10_0 (by omega)
        have q33 : IMk s31 := by rw [es31]; exact IMk_268 q10_1 (by omega)
        have q34 : IMo s31 := by rw [es31]; exact IMo_o (by unfold suIMo; first | decide | omega) q10_2
        have q35 : IR s31 := by rw [es31]; exact IR_268 q10_3 (by omega)
        have q36 : s31 268 8 = s0 268 8 := (show s31 268 8 = s_10 268 8 from by rw [es31, xU_j _ _ (by decide)]).trans q10_4
        have q37 : s31 268 58 = s0 268 58 := (show s31 268 58 = s_10 268 58 from by rw [es31, xU_j _ _ (by decide)]).trans q10_5
        have q38 : s31 268 17 = s0 268 17 := (show s31 268 17 = s_10 268 17 from by rw [es31, xU_j _ _ (by decide)]).trans q10_6
        have q39 : s31 268 10 = s0 268 10 := (show s31 268 10 = s_10 268 10 from by rw [es31, xU_j _ _ (by decide)]).trans q10_7
        have q40 : s31 268 13 = s0 268 13 := (show s31 268 13 = s_10 268 13 from by rw [es31, xU_j _ _ (by decide)]).trans q10_8
        have q41 : s31 268 14 = s0 268 14 := (show s31 268 14 = s_10 268 14 from by rw [es31, xU_j _ _ (by decide)]).trans q10_9
        have q42 : s31 268 15 = s0 268 15 := (show s31 268 15 = s_10 268 15 from by rw [es31, xU_j _ _ (by decide)]).trans q10_10
        have q43 : s31 268 16 = s0 268 16 := (show s31 268 16 = s_10 268 16 from by rw [es31, xU_j _ _ (by decide)]).trans q10_11
        have q44 : s31 268 48 = s0 268 48 := (show s31 268 48 = s_10 268 48 from by rw [es31, xU_j _ _ (by decide)]).trans q10_12
        have q45 : s31 268 9 = x23 := (show s31 268 9 = s_10 268 9 from by rw [es31, xU_j _ _ (by decide)]).trans q24
        have q46 : s31 268 12 = (((10 * x26) + x28) - 48) := by rw [es31, xU_s]
        have hF47 := hF_10.put es31 (by omega)
        refine x_aload_n hx hb hl 0 rfl dX11_readsNumber_56 rfl ?_
        refine x_aload_n hx hb hl 0 rfl dX11_readsNumber_57 rfl ?_
        refine x_get (j := 9) (v := .int (xJ (s31 268 9))) hx hb hown hT hE hW cls_X11 (Or.inl (by decide)) (so_268 h0 g _) (by decide) rfl wq1194 dX11_readsNumber_58 ?_
        refine x_rd hW (fun x48 ex48 rx48 => ?_)
        have bx48 : 0 ≤ x48 ∧ x48 ≤ s31 268 10 ∧ s31 268 10 ≤ 240 := by rw [ex48]; exact q35
        have fx48 : x48 = x23 := ex48.trans q45
        refine x_iconst hx hb dX11_readsNumber_61 ?_
        refine x_iadd hx hb dX11_readsNumber_62 ?_
        refine x_put (j := 9) hx hb hown hT hE hW cls_X11 (by decide) (fun σ => so_268 h0 g σ) (by decide) (st_X11_9 h0 s31 268 (x48 + 1)) (ln_X11_9 h0 _ _) wq1194 rfl rfl rfl (by omega) dX11_readsNumber_63 (fun H locs s49 es49 hW => ?_)
        have q50 : IMn s49 := by rw [es49]; exact IMn_268 q32 (by omega)
        have q51 : IMk s49 := by rw [es49]; exact IMk_268 q33 (by omega)
        have q52 : IMo s49 := by rw [es49]; exact IMo_o (by unfold suIMo; first | decide | omega) q34
        have q53 : IR s49 := by rw [es49]; exact IR_268 q35 (by omega)
        have q54 : s49 268 8 = s0 268 8 := (show s49 268 8 = s31 268 8 from by rw [es49, xU_j _ _ (by decide)]).trans q36
        have q55 : s49 268 58 = s0 268 58 := (show s49 268 58 = s31 268 58 from by rw [es49, xU_j _ _ (by decide)]).trans q37
        have q56 : s49 268 17 = s0 268 17 := (show s49 268 17 = s31 268 17 from by rw [es49, xU_j _ _ (by decide)]).trans q38
        have q57 : s49 268 10 = s0 268 10 := (show s49 268 10 = s31 268 10 from by rw [es49, xU_j _ _ (by decide)]).trans q39
        have q58 : s49 268 13 = s0 268 13 := (show s49 268 13 = s31 268 13 from by rw [es49, xU_j _ _ (by decide)]).trans q40
        have q59 : s49 268 14 = s0 268 14 := (show s49 268 14 = s31 268 14 from by rw [es49, xU_j _ _ (by decide)]).trans q41
        have q60 : s49 268 15 = s0 268 15 := (show s49 268 15 = s31 268 15 from by rw [es49, xU_j _ _ (by decide)]).trans q42
        have q61 : s49 268 16 = s0 268 16 := (show s49 268 16 = s31 268 16 from by rw [es49, xU_j _ _ (by decide)]).trans q43
        have q62 : s49 268 48 = s0 268 48 := (show s49 268 48 = s31 268 48 from by rw [es49, xU_j _ _ (by decide)]).trans q44
        have q63 : s49 268 9 = (x48 + 1) := by rw [es49, xU_s]
        have q64 : s49 268 12 = (((10 * x26) + x28) - 48) := (show s49 268 12 = s31 268 12 from by rw [es49, xU_j _ _ (by decide)]).trans q46
        have hF65 := hF47.put es49 (by omega)
        refine lv_goto (tgt := 10) hx hb dX11_readsNumber_66 (by decide) ?_
        exact ih10 s49 H locs ls hF65 q50 q51 q52 q53 q54 q55 q56 q57 q58 q59 q60 q61 q62 (by omega) (v10_1.trans (znr_go (by omega) D11 (by omega) (by omega))) (zNB_s v10_2 (by omega) (by omega) (by have := D11.1; have := D11.2; omega)) (by have hm := hm_10 (); omega) hW (lv_sub hl [0, 1] rfl)
      refine x_aload_n hx hb hl 0 rfl dX11_readsNumber_27 rfl ?_
      refine x_iconst hx hb dX11_readsNumber_28 ?_
      refine x_aload_n hx hb hl 0 rfl dX11_readsNumber_29 rfl ?_
      refine x_get (j := 9) (v := .int (xJ (s_10 268 9))) hx hb hown hT hE hW cls_X11 (Or.inl (by decide)) (so_268 h0 g _) (by decide) rfl wq1194 dX11_readsNumber_30 ?_
      refine x_rd hW (fun x66 ex66 rx66 => ?_)
      have bx66 : 0 ≤ x66 ∧ x66 ≤ s_10 268 10 ∧ s_10 268 10 ≤ 240 := by rw [ex66]; exact q10_3
      have fx66 : x66 = x23 := ex66.trans q24
      refine x_goi (x_runV (As := [.int (xJ 2), .int (xJ x66)]) hx hb hml hown hT hE hW hl.1 (Or.inl (by decide)) (so_268 h0 g _) rfl cf_X11_wrongAt wq1401 wq107 wq1399 (c_X11_wrongAtK l D g T h0 s_10 hW.2.1 2 (by decide) x66 rx66 (by omega) q10_0 q10_1 q10_2 q10_3) ⟨rfl, rfl, ⟨by decide, by decide⟩, ⟨by decide, by decide⟩⟩ rfl rfl (Nat.le_of_ble_eq_true rfl) dX11_readsNumber_33) hW (fun x67 s68 H locs rx67 hp69 hW => ?_)
      obtain ⟨fs68, hp69⟩ := hp69
      have hF70 := hF_10.call fs68 (fun k h => by omega)
      have ghp69 := hp69.2
      rw [eQ]
      exact x_zret hx hb hr hlk hW (by omega) ⟨hF70, ⟨hp69.1.1, hp69.1.2.1, hp69.1.2.2.1, hp69.1.2.2.2.1, (hp69.1.2.2.2.2.1.trans q10_4), (hp69.1.2.2.2.2.2.1.trans q10_5), (hp69.1.2.2.2.2.2.2.1.trans q10_6), (hp69.1.2.2.2.2.2.2.2.2.1.trans q10_7), (hp69.1.2.2.2.2.2.2.2.2.2.1.trans q10_8), (hp69.1.2.2.2.2.2.2.2.2.2.2.1.trans q10_9), (hp69.1.2.2.2.2.2.2.2.2.2.2.2.1.trans q10_10), (hp69.1.2.2.2.2.2.2.2.2.2.2.2.2.1.trans q10_11), (hp69.1.2.2.2.2.2.2.2.2.2.2.2.2.2.1.trans q10_12), trivial⟩, by
          have e : (znr f9 n9 5 (s0 268 9) 0) = (s_10 268 9, s_10 268 12) := v10_1.trans (znr_0 (by omega))
          rw [e]
          exact Or.inl ⟨by omega, D11, by show _ = -2000 - s_10 268 9; omega⟩⟩ dX11_readsNumber_36
  exact L10 ((241 - s2 268 9 : Int).toNat + 1) s2 H locs ls hF18 q3 q4 q5 q6 q7 q8 q9 q10 q11 q12 q13 q14 q15 (by omega) (by rw [show s2 268 9 = s0 268 9 from by omega, show s2 268 12 = 0 from by omega, show (x1 + 5 - s0 268 9).toNat = 5 from by omega]) (zNB_0 (by omega) (by omega)) (Nat.lt_succ_self _) hW (lv_sub hl [1, 0] rfl)
set_option maxHeartbeats 4000000 in
set_option maxRecDepth 100000 in
theorem c_X11_closesSumsK (l : Launch) (D : va_G) (g : xG) (T : Nat × Nat × Nat) (h0 : Nat) (s0 : xS) (hσ : xRR s0) (q : Int) (rq : xR q) (f9 : Int → Int) (n9 : Int) (qb : Int) (b : Int) (K9 : Int) (b9 : Int) (B9 : Int → Int) (Z : Int × Int × Int × (Int → Int)) (w9 : Int → Int) (hf : xm8 (s0 276) = f9 ∧ s0 268 10 = n9) (hz : zER f9 n9 qb b K9 b9 B9 Z false w9 s0) (hq : q = 0 ∨ (q = 1 ∧ zsg (zch f9 n9 (s0 268 9)) < 4)) (p0 : IMn s0) (p1 : IMk s0) (p2 : IMo s0) (p3 : IR s0) : Met l yX11_closesSums (xws yX11_closesSums cX11_closesSums 2 none) { frames := 1, cells := 0, slots := 0, locals := 22 } (xP [.ref (h0 + 268), .int (xJ q)] D g T h0 s0) (xQv D g h0 (fun τ => xFr (fun k => k = 268 ∨ k = 277) s0 τ ∧ (((IMn τ) ∧ (IMk τ) ∧ (IMo τ) ∧ (IR τ) ∧ (τ 268 8 = s0 268 8) ∧ (τ 268 58 = s0 268 58) ∧ (τ 268 17 = s0 268 17) ∧ (τ 268 9 = s0 268 9) ∧ (τ 268 10 = s0 268 10) ∧ (τ 268 13 = s0 268 13) ∧ (τ 268 16 = s0 268 16) ∧ (τ 268 48 = s0 268 48) ∧ True) ∧ (zER f9 n9 qb b K9 b9 B9 Z false w9 τ ∧ (ztW τ < 4 ∨ 6 < ztW τ) ∧ (q = 0 ∨ ztW τ < 2 ∨ 6 < ztW τ))))) 0 0 (xA h0) := by
  refine x_met hσ (by decide) (Nat.le_of_ble_eq_true rfl) ?_
  intro p e s m args below meth c hx hb hr hml hown hT hlk hnm hE hW ls hl
  have hl : lv_has ls 2 [(0, .ref (h0 + 268)), (1, .int (xJ q))] := hl
  obtain ⟨Q, eQ⟩ : ∃ Q, Q = MQ below (xQv D g h0 (fun τ => xFr (fun k => k = 268 ∨ k = 277) s0 τ ∧ (((IMn τ) ∧ (IMk τ) ∧ (IMo τ) ∧ (IR τ) ∧ (τ 268 8 = s0 268 8) ∧ (τ 268 58 = s0 268 58) ∧ (τ 268 17 = s0 268 17) ∧ (τ 268 9 = s0 268 9) ∧ (τ 268 10 = s0 268 10) ∧ (τ 268 13 = s0 268 13) ∧ (τ 268 16 = s0 268 16) ∧ (τ 268 48 = s0 268 48) ∧ True) ∧ (zER f9 n9 qb b K9 b9 B9 Z false w9 τ ∧ (ztW τ < 4 ∨ 6 < ztW τ) ∧ (q = 0 ∨ ztW τ < 2 ∨ 6 < ztW τ))))) args s 0 0 (xA h0) := ⟨_, rfl⟩
  rw [← eQ]
  generalize hHe : ([] : List Loc) = locs at hW ⊢
  obtain ⟨H, eH⟩ : ∃ H, H = s.heap := ⟨_, rfl⟩
  rw [← eH] at hW ⊢
  have hF : xFr (fun k => k = 268 ∨ k = 277) s0 s0 := xFr.rf
  have k268_8 : s0 268 8 = s0 268 8 := rfl
  have k268_58 : s0 268 58 = s0 268 58 := rfl
  have k268_17 : s0 268 17 = s0 268 17 := rfl
  have k268_9 : s0 268 9 = s0 268 9 := rfl
  have k268_10 : s0 268 10 = s0 268 10 := rfl
  have k268_13 : s0 268 13 = s0 268 13 := rfl
  have k268_16 : s0 268 16 = s0 268 16 := rfl
  have k268_48 : s0 268 48 = s0 268 48 := rfl
  have k268_14 : s0 268 14 = s0 268 14 := rfl
  have k268_15 : s0 268 15 = s0 268 15 := rfl
  have L0 : ∀ (fu : Nat) (s_0 : xS) (H : Heap) (locs : List Loc) (ls : Array Slot), (xFr (fun k => k = 268 ∨ k = 277) s0 s_0) → (IMn s_0) → (IMk s_0) → (IMo s_0) → (IR s_0) → (s_0 268 8 = s0 268 8) → (s_0 268 58 = s0 268 58) → (s_0 268 17 = s0 268 17) → (s_0 268 9 = s0 268 9) → (s_0 268 10 = s0 268 10) → (s_0 268 13 = s0 268 13) → (s_0 268 16 = s0 268 16) → (s_0 268 48 = s0 268 48) → (zER f9 n9 qb b K9 b9 B9 Z false w9 s_0) → (s_0 268 15).toNat < fu → xW D g h0 s H locs s_0 → lv_has ls 2 [(0, .ref (h0 + 268)), (1, .int (xJ q))] → W p l e { frames := 1, cells := 0, slots := 0, locals := 22 } s m args below meth c H locs 0 0 Q (F0 m 0 ls []) := by
    intro fu
    induction fu with
    | zero => intro s_0 H locs ls hF_0 q0_0 q0_1 q0_2 q0_3 q0_4 q0_5 q0_6 q0_7 q0_8 q0_9 q0_10 q0_11 v0_0 hm; exact absurd hm (Nat.not_lt_zero _)
    | succ fu ih0 =>
      intro s_0 H locs ls hF_0 q0_0 q0_1 q0_2 q0_3 q0_4 q0_5 q0_6 q0_7 q0_8 q0_9 q0_10 q0_11 v0_0 hm hW hl
      have hm_0 := fun (_ : Unit) => hm
      clear hm
      have b0 := v0_0.b
      refine x_aload_n hx hb hl 0 rfl dX11_closesSums_0 rfl ?_
      refine x_goi (x_runV (As := []) hx hb hml hown hT hE hW hl.1 (Or.inl (by decide)) (so_268 h0 g _) rfl cf_X11_waitTop wq1507 wq123 wq1505 (c_X11_waitTopK l D g T h0 s_0 hW.2.1 (v0_0.wt) q0_0 q0_1 q0_2 q0_3) ⟨rfl, rfl, ⟨by decide, by decide⟩, ⟨by decide, by decide⟩⟩ rfl rfl (Nat.le_of_ble_eq_true rfl) dX11_closesSums_1) hW (fun x1 s2 H locs rx1 hp3 hW => ?_)
      obtain ⟨es2, hp3⟩ := hp3
      subst es2
      have ghp3 := hp3
      have H1 := ghp3
      refine x_iconst hx hb dX11_closesSums_4 ?_
      refine x_icmp_lt (tgt := 17) hx hb rx1 (by decide) dX11_closesSums_5 (by decide) (fun c4 => ?_) (fun c4 => ?_)
      · skip
        refine x_iload_n hx hb hl 1 rfl dX11_closesSums_17 rfl ?_
        refine x_if_eq (tgt := 59) hx hb rq dX11_closesSums_18 (by decide) (fun c5 => ?_) (fun c5 => ?_)
        · skip
          rw [eQ]
          exact x_vret hx hb hr hlk hW ⟨hF_0, ⟨q0_0, q0_1, q0_2, q0_3, q0_4, q0_5, q0_6, q0_7, q0_8, q0_9, q0_10, q0_11, trivial⟩, ⟨v0_0, by omega, by omega⟩⟩ dX11_closesSums_59
        refine x_aload_n hx hb hl 0 rfl dX11_closesSums_21 rfl ?_
        refine x_goi (x_runV (As := []) hx hb hml hown hT hE hW hl.1 (Or.inl (by decide)) (so_268 h0 g _) rfl cf_X11_waitTop wq1507 wq123 wq1505 (c_X11_waitTopK l D g T h0 s_0 hW.2.1 (v0_0.wt) q0_0 q0_1 q0_2 q0_3) ⟨rfl, rfl, ⟨by decide, by decide⟩, ⟨by decide, by decide⟩⟩ rfl rfl (Nat.le_of_ble_eq_true rfl) dX11_closesSums_22) hW (fun x6 s7 H locs rx6 hp8 hW => ?_)
        obtain ⟨es7, hp8⟩ := hp8
        subst es7
        have ghp8 := hp8
        have H22 := ghp8
        refine x_iconst hx hb dX11_closesSums_25 ?_
        refine x_icmp_eq (tgt := 37) hx hb rx6 (by decide) dX11_closesSums_26 (by decide) (fun c9 => ?_) (fun c9 => ?_)
        · skip
          refine x_aload_n hx hb hl 0 rfl dX11_closesSums_37 rfl ?_
          refine x_aload_n hx hb hl 0 rfl dX11_closesSums_38 rfl ?_
          refine x_goi (x_runV (As := []) hx hb hml hown hT hE hW hl.1 (Or.inl (by decide)) (so_268 h0 g _) rfl cf_X11_waitTop wq1507 wq123 wq1505 (c_X11_waitTopK l D g T h0 s_0 hW.2.1 (v0_0.wt) q0_0 q0_1 q0_2 q0_3) ⟨rfl, rfl, ⟨by decide, by decide⟩, ⟨by decide, by decide⟩⟩ rfl rfl (Nat.le_of_ble_eq_true rfl) dX11_closesSums_39) hW (fun x10 s11 H locs rx10 hp12 hW => ?_)
          obtain ⟨es11, hp12⟩ := hp12
          subst es11
          have ghp12 := hp12
          have H39 := ghp12
          have N39 := v0_0.ne (by omega)
          refine x_iconst hx hb dX11_closesSums_42 ?_
          refine x_gov (x_runV (As := [.int (xJ x10), .int (xJ 0)]) hx hb hml hown hT hE hW hl.1 (Or.inl (by decide)) (so_268 h0 g _) rfl cf_X11_notes wq1493 wq121 wq1491 (c_X11_notesK l D g T h0 s_0 hW.2.1 x10 rx10 0 (by decide) (by omega) (by omega) (by omega) q0_0 q0_1 q0_2 q0_3) ⟨rfl, rfl, ⟨by decide, by decide⟩, ⟨by decide, by decide⟩⟩ rfl rfl (Nat.le_of_ble_eq_true rfl) dX11_closesSums_43) hW (fun s14 H locs hp15 hW => ?_)
          obtain ⟨fs14, hp15⟩ := hp15
          have hF16 := hF_0.call fs14 (fun k h => by omega)
          have ghp15 := hp15.2
          have H43 := ghp15
          have F43 := fs14
          refine x_aload_n hx hb hl 0 rfl dX11_closesSums_46 rfl ?_
          refine x_aload_n hx hb hl 0 rfl dX11_closesSums_47 rfl ?_
          refine x_get (j := 15) (v := .int (xJ (s14 268 15))) hx hb hown hT hE hW cls_X11 (Or.inl (by decide)) (so_268 h0 g _) (by decide) rfl wq1200 dX11_closesSums_48 ?_
          refine x_rd hW (fun x17 ex17 rx17 => ?_)
          have fx17 : x17 = s_0 268 15 := ex17.trans hp15.1.2.2.2.2.2.2.2.2.2.2.1
          refine x_iconst hx hb dX11_closesSums_51 ?_
          refine x_isub hx hb dX11_closesSums_52 ?_
          refine x_put (j := 15) hx hb hown hT hE hW cls_X11 (by decide) (fun σ => so_268 h0 g σ) (by decide) (st_X11_15 h0 s14 268 (x17 - 1)) (ln_X11_15 h0 _ _) wq1200 rfl rfl rfl (by omega) dX11_closesSums_53 (fun H locs s18 es18 hW => ?_)
          have q19 : IMn s18 := by rw [es18]; exact IMn_268 hp15.1.1 (by omega)
          have q20 : IMk s18 := by rw [es18]; exact IMk_268 hp15.1.2.1 (by omega)
          have q21 : IMo s18 := by rw [es18]; exact IMo_o (by unfold suIMo; first | decide | omega) hp15.1.2.2.1
          have q22 : IR s18 := by rw [es18]; exact IR_268 hp15.1.2.2.2.1 (by omega)
          have q23 : s18 268 8 = s0 268 8 := (show s18 268 8 = s14 268 8 from by rw [es18, xU_j _ _ (by decide)]).trans (hp15.1.2.2.2.2.1.trans q0_4)
          have q24 : s18 268 58 = s0 268 58 := (show s18 268 58 = s14 268 58 from by rw [es18, xU_j _ _ (by decide)]).trans (hp15.1.2.2.2.2.2.1.trans q0_5)
          have q25 : s18 268 17 = s0 268 17 := (show s18 268 17 = s14 268 17 from by rw [es18, xU_j _ _ (by decide)]).trans (hp15.1.2.2.2.2.2.2.1.trans q0_6)
          have q26 : s18 268 9 = s0 268 9 := (show s18 268 9 = s14 268 9 from by rw [es18, xU_j _ _ (by decide)]).trans (hp15.1.2.2.2.2.2.2.2.1.trans q0_7)
          have q27 : s18 268 10 = s0 268 10 := (show s18 268 10 = s14 268 10 from by rw [es18, xU_j _ _ (by decide)]).trans (hp15.1.2.2.2.2.2.2.2.2.1.trans q0_8)
          have q28 : s18 268 13 = s0 268 13 := (show s18 268 13 = s14 268 13 from by rw [es18, xU_j _ _ (by decide)]).trans (hp15.1.2.2.2.2.2.2.2.2.2.1.trans q0_9)
          have q29 : s18 268 15 = (x17 - 1) := by rw [es18, xU_s]
          have q30 : s18 268 16 = s0 268 16 := (show s18 268 16 = s14 268 16 from by rw [es18, xU_j _ _ (by decide)]).trans (hp15.1.2.2.2.2.2.2.2.2.2.2.2.1.trans q0_10)
          have q31 : s18 268 48 = s0 268 48 := (show s18 268 48 = s14 268 48 from by rw [es18, xU_j _ _ (by decide)]).trans (hp15.1.2.2.2.2.2.2.2.2.2.2.2.2.1.trans q0_11)
          have hF32 := hF16.put es18 (by omega)
          have E53 := es18
          have G53 : s18 268 14 = s_0 268 14 + 1 := by
              rw [E53, xU_j _ _ (by decide)]; have y := H43.2; omega
          have X53 : zER f9 n9 qb b K9 b9 B9 Z false w9 s18 := v0_0.emit (v := 1048576 * ztW s_0) (by rw [show s_0 268 9 = s0 268 9 from by omega]; omega) rfl (by omega) (by omega) (by rw [E53, xU_k _ _ _ (by first | decide | omega), H43.1, H39]; rw [Int.add_zero]) (by omega) (by omega) (by rw [E53, xU_k _ _ _ (by first | decide | omega), F43 278 (by omega)])
          refine lv_goto (tgt := 0) hx hb dX11_closesSums_56 (by decide) ?_
          exact ih0 s18 H locs ls hF32 q19 q20 q21 q22 q23 q24 q25 q26 q27 q28 q30 q31 (X53) (by have hm := hm_0 (); omega) hW (lv_sub hl [0, 1] rfl)
        refine x_aload_n hx hb hl 0 rfl dX11_closesSums_29 rfl ?_
        refine x_goi (x_runV (As := []) hx hb hml hown hT hE hW hl.1 (Or.inl (by decide)) (so_268 h0 g _) rfl cf_X11_waitTop wq1507 wq123 wq1505 (c_X11_waitTopK l D g T h0 s_0 hW.2.1 (v0_0.wt) q0_0 q0_1 q0_2 q0_3) ⟨rfl, rfl, ⟨by decide, by decide⟩, ⟨by decide, by decide⟩⟩ rfl rfl (Nat.le_of_ble_eq_true rfl) dX11_closesSums_30) hW (fun x33 s34 H locs rx33 hp35 hW => ?_)
        obtain ⟨es34, hp35⟩ := hp35
        subst es34
        have ghp35 := hp35
        have H30 := ghp35
        refine x_iconst hx hb dX11_closesSums_33 ?_
        refine x_icmp_ne (tgt := 59) hx hb rx33 (by decide) dX11_closesSums_34 (by decide) (fun c36 => ?_) (fun c36 => ?_)
        · skip
          rw [eQ]
          exact x_vret hx hb hr hlk hW ⟨hF_0, ⟨q0_0, q0_1, q0_2, q0_3, q0_4, q0_5, q0_6, q0_7, q0_8, q0_9, q0_10, q0_11, trivial⟩, ⟨v0_0, by omega, by omega⟩⟩ dX11_closesSums_59
        refine x_aload_n hx hb hl 0 rfl dX11_closesSums_37 rfl ?_
        refine x_aload_n hx hb hl 0 rfl dX11_closesSums_38 rfl ?_
        refine x_goi (x_runV (As := []) hx hb hml hown hT hE hW hl.1 (Or.inl (by decide)) (so_268 h0 g _) rfl cf_X11_waitTop wq1507 wq123 wq1505 (c_X11_waitTopK l D g T h0 s_0 hW.2.1 (v0_0.wt) q0_0 q0_1 q0_2 q0_3) ⟨rfl, rfl, ⟨by decide, by decide⟩, ⟨by decide, by decide⟩⟩ rfl rfl (Nat.le_of_ble_eq_true rfl) dX11_closesSums_39) hW (fun x37 s38 H locs rx37 hp39 hW => ?_)
        obtain ⟨es38, hp39⟩ := hp39
        subst es38
        have ghp39 := hp39
        have H39 := ghp39
        have N39 := v0_0.ne (by omega)
        refine x_iconst hx hb dX11_closesSums_42 ?_
        refine x_gov (x_runV (As := [.int (xJ x37), .int (xJ 0)]) hx hb hml hown hT hE hW hl.1 (Or.inl (by decide)) (so_268 h0 g _) rfl cf_X11_notes wq1493 wq121 wq1491 (c_X11_notesK l D g T h0 s_0 hW.2.1 x37 rx37 0 (by decide) (by omega) (by omega) (by omega) q0_0 q0_1 q0_2 q0_3) ⟨rfl, rfl, ⟨by decide, by decide⟩, ⟨by decide, by decide⟩⟩ rfl rfl (Nat.le_of_ble_eq_true rfl) dX11_closesSums_43) hW (fun s41 H locs hp42 hW => ?_)
        obtain ⟨fs41, hp42⟩ := hp42
        have hF43 := hF_0.call fs41 (fun k h => by omega)
        have ghp42 := hp42.2
        have H43 := ghp42
        have F43 := fs41
        refine x_aload_n hx hb hl 0 rfl dX11_closesSums_46 rfl ?_
        refine x_aload_n hx hb hl 0 rfl dX11_closesSums_47 rfl ?_
        refine x_get (j := 15) (v := .int (xJ (s41 268 15))) hx hb hown hT hE hW cls_X11 (Or.inl (by decide)) (so_268 h0 g _) (by decide) rfl wq1200 dX11_closesSums_48 ?_
        refine x_rd hW (fun x44 ex44 rx44 => ?_)
        have fx44 : x44 = s_0 268 15 := ex44.trans hp42.1.2.2.2.2.2.2.2.2.2.2.1
        refine x_iconst hx hb dX11_closesSums_51 ?_
        refine x_isub hx hb dX11_closesSums_52 ?_
        refine x_put (j := 15) hx hb hown hT hE hW cls_X11 (by decide) (fun σ => so_268 h0 g σ) (by decide) (st_X11_15 h0 s41 268 (x44 - 1)) (ln_X11_15 h0 _ _) wq1200 rfl rfl rfl (by omega) dX11_closesSums_53 (fun H locs s45 es45 hW => ?_)
        have q46 : IMn s45 := by rw [es45]; exact IMn_268 hp42.1.1 (by omega)
        have q47 : IMk s45 := by rw [es45]; exact IMk_268 hp42.1.2.1 (by omega)
        have q48 : IMo s45 := by rw [es45]; exact IMo_o (by unfold suIMo; first | decide | omega) hp42.1.2.2.1
        have q49 : IR s45 := by rw [es45]; exact IR_268 hp42.1.2.2.2.1 (by omega)
        have q50 : s45 268 8 = s0 268 8 := (show s45 268 8 = s41 268 8 from by rw [es45, xU_j _ _ (by decide)]).trans (hp42.1.2.2.2.2.1.trans q0_4)
        have q51 : s45 268 58 = s0 268 58 := (show s45 268 58 = s41 268 58 from by rw [es45, xU_j _ _ (by decide)]).trans (hp42.1.2.2.2.2.2.1.trans q0_5)
        have q52 : s45 268 17 = s0 268 17 := (show s45 268 17 = s41 268 17 from by rw [es45, xU_j _ _ (by decide)]).trans (hp42.1.2.2.2.2.2.2.1.trans q0_6)
        have q53 : s45 268 9 = s0 268 9 := (show s45 268 9 = s41 268 9 from by rw [es45, xU_j _ _ (by decide)]).trans (hp42.1.2.2.2.2.2.2.2.1.trans q0_7)
        have q54 : s45 268 10 = s0 268 10 := (show s45 268 10 = s41 268 10 from by rw [es45, xU_j _ _ (by decide)]).trans (hp42.1.2.2.2.2.2.2.2.2.1.trans q0_8)
        have q55 : s45 268 13 = s0 268 13 := (show s45 268 13 = s41 268 13 from by rw [es45, xU_j _ _ (by decide)]).trans (hp42.1.2.2.2.2.2.2.2.2.2.1.trans q0_9)
        have q56 : s45 268 15 = (x44 - 1) := by rw [es45, xU_s]
        have q57 : s45 268 16 = s0 268 16 := (show s45 268 16 = s41 268 16 from by rw [es45, xU_j _ _ (by decide)]).trans (hp42.1.2.2.2.2.2.2.2.2.2.2.2.1.trans q0_10)
        have q58 : s45 268 48 = s0 268 48 := (show s45 268 48 = s41 268 48 from by rw [es45, xU_j _ _ (by decide)]).trans (hp42.1.2.2.2.2.2.2.2.2.2.2.2.2.1.trans q0_11)
        have hF59 := hF43.put es45 (by omega)
        have E53 := es45
        have G53 : s45 268 14 = s_0 268 14 + 1 := by
            rw [E53, xU_j _ _ (by decide)]; have y := H43.2; omega
        have X53 : zER f9 n9 qb b K9 b9 B9 Z false w9 s45 := v0_0.emit (v := 1048576 * ztW s_0) (by rw [show s_0 268 9 = s0 268 9 from by omega]; omega) rfl (by omega) (by omega) (by rw [E53, xU_k _ _ _ (by first | decide | omega), H43.1, H39]; rw [Int.add_zero]) (by omega) (by omega) (by rw [E53, xU_k _ _ _ (by first | decide | omega), F43 278 (by omega)])
        refine lv_goto (tgt := 0) hx hb dX11_closesSums_56 (by decide) ?_
        exact ih0 s45 H locs ls hF59 q46 q47 q48 q49 q50 q51 q52 q53 q54 q55 q57 q58 (X53) (by have hm := hm_0 (); omega) hW (lv_sub hl [0, 1] rfl)
      refine x_aload_n hx hb hl 0 rfl dX11_closesSums_8 rfl ?_
      refine x_goi (x_runV (As := []) hx hb hml hown hT hE hW hl.1 (Or.inl (by decide)) (so_268 h0 g _) rfl cf_X11_waitTop wq1507 wq123 wq1505 (c_X11_waitTopK l D g T h0 s_0 hW.2.1 (v0_0.wt) q0_0 q0_1 q0_2 q0_3) ⟨rfl, rfl, ⟨by decide, by decide⟩, ⟨by decide, by decide⟩⟩ rfl rfl (Nat.le_of_ble_eq_true rfl) dX11_closesSums_9) hW (fun x60 s61 H locs rx60 hp62 hW => ?_)
      obtain ⟨es61, hp62⟩ := hp62
      subst es61
      have ghp62 := hp62
      have H9 := ghp62
      refine x_bipush hx hb dX11_closesSums_12 (by decide) ?_
      refine x_icmp_le (tgt := 37) hx hb rx60 (by decide) dX11_closesSums_14 (by decide) (fun c63 => ?_) (fun c63 => ?_)
      · skip
        refine x_aload_n hx hb hl 0 rfl dX11_closesSums_37 rfl ?_
        refine x_aload_n hx hb hl 0 rfl dX11_closesSums_38 rfl ?_
        refine x_goi (x_runV (As := []) hx hb hml hown hT hE hW hl.1 (Or.inl (by decide)) (so_268 h0 g _) rfl cf_X11_waitTop wq1507 wq123 wq1505 (c_X11_waitTopK l D g T h0 s_0 hW.2.1 (v0_0.wt) q0_0 q0_1 q0_2 q0_3) ⟨rfl, rfl, ⟨by decide, by decide⟩, ⟨by decide, by decide⟩⟩ rfl rfl (Nat.le_of_ble_eq_true rfl) dX11_closesSums_39) hW (fun x64 s65 H locs rx64 hp66 hW => ?_)
        obtain ⟨es65, hp66⟩ := hp66
        subst es65
        have ghp66 := hp66
        have H39 := ghp66
        have N39 := v0_0.ne (by omega)
        refine x_iconst hx hb dX11_closesSums_42 ?_
        refine x_gov (x_runV (As := [.int (xJ x64), .int (xJ 0)]) hx hb hml hown hT hE hW hl.1 (Or.inl (by decide)) (so_268 h0 g _) rfl cf_X11_notes wq1493 wq121 wq1491 (c_X11_notesK l D g T h0 s_0 hW.2.1 x64 rx64 0 (by decide) (by omega) (by omega) (by omega) q0_0 q0_1 q0_2 q0_3) ⟨rfl, rfl, ⟨by decide, by decide⟩, ⟨by decide, by decide⟩⟩ rfl rfl (Nat.le_of_ble_eq_true rfl) dX11_closesSums_43) hW (fun s68 H locs hp69 hW => ?_)
        obtain ⟨fs68, hp69⟩ := hp69
        have hF70 := hF_0.call fs68 (fun k h => by omega)
        have ghp69 := hp69.2
        have H43 := ghp69
        have F43 := fs68
        refine x_aload_n hx hb hl 0 rfl dX11_closesSums_46 rfl ?_
        refine x_aload_n hx hb hl 0 rfl dX11_closesSums_47 rfl ?_
        refine x_get (j := 15) (v := .int (xJ (s68 268 15))) hx hb hown hT hE hW cls_X11 (Or.inl (by decide)) (so_268 h0 g _) (by decide) rfl wq1200 dX11_closesSums_48 ?_
        refine x_rd hW (fun x71 ex71 rx71 => ?_)
        have fx71 : x71 = s_0 268 15 := ex71.trans hp69.1.2.2.2.2.2.2.2.2.2.2.1
        refine x_iconst hx hb dX11_closesSums_51 ?_
        refine x_isub hx hb dX11_closesSums_52 ?_
        refine x_put (j := 15) hx hb hown hT hE hW cls_X11 (by decide) (fun σ => so_268 h0 g σ) (by decide) (st_X11_15 h0 s68 268 (x71 - 1)) (ln_X11_15 h0 _ _) wq1200 rfl rfl rfl (by omega) dX11_closesSums_53 (fun H locs s72 es72 hW => ?_)
        have q73 : IMn s72 := by rw [es72]; exact IMn_268 hp69.1.1 (by omega)
        have q74 : IMk s72 := by rw [es72]; exact IMk_268 hp69.1.2.1 (by omega)
        have q75 : IMo s72 := by rw [es72]; exact IMo_o (by unfold suIMo; first | decide | omega) hp69.1.2.2.1
        have q76 : IR s72 := by rw [es72]; exact IR_268 hp69.1.2.2.2.1 (by omega)
        have q77 : s72 268 8 = s0 268 8 := (show s72 268 8 = s68 268 8 from by rw [es72, xU_j _ _ (by decide)]).trans (hp69.1.2.2.2.2.1.trans q0_4)
        have q78 : s72 268 58 = s0 268 58 := (show s72 268 58 = s68 268 58 from by rw [es72, xU_j _ _ (by decide)]).trans (hp69.1.2.2.2.2.2.1.trans q0_5)
        have q79 : s72 268 17 = s0 268 17 := (show s72 268 17 = s68 268 17 from by rw [es72, xU_j _ _ (by decide)]).trans (hp69.1.2.2.2.2.2.2.1.trans q0_6)
        have q80 : s72 268 9 = s0 268 9 := (show s72 268 9 = s68 268 9 from by rw [es72, xU_j _ _ (by decide)]).trans (hp69.1.2.2.2.2.2.2.2.1.trans q0_7)
        have q81 : s72 268 10 = s0 268 10 := (show s72 268 10 = s68 268 10 from by rw [es72, xU_j _ _ (by decide)]).trans (hp69.1.2.2.2.2.2.2.2.2.1.trans q0_8)
        have q82 : s72 268 13 = s0 268 13 := (show s72 268 13 = s68 268 13 from by rw [es72, xU_j _ _ (by decide)]).trans (hp69.1.2.2.2.2.2.2.2.2.2.1.trans q0_9)
        have q83 : s72 268 15 = (x71 - 1) := by rw [es72, xU_s]
        have q84 : s72 268 16 = s0 268 16 := (show s72 268 16 = s68 268 16 from by rw [es72, xU_j _ _ (by decide)]).trans (hp69.1.2.2.2.2.2.2.2.2.2.2.2.1.trans q0_10)
        have q85 : s72 268 48 = s0 268 48 := (show s72 268 48 = s68 268 48 from by rw [es72, xU_j _ _ (by decide)]).trans (hp69.1.2.2.2.2.2.2.2.2.2.2.2.2.1.trans q0_11)
        have hF86 := hF70.put es72 (by omega)
        have E53 := es72
        have G53 : s72 268 14 = s_0 268 14 + 1 := by
            rw [E53, xU_j _ _ (by decide)]; have y := H43.2; omega
        have X53 : zER f9 n9 qb b K9 b9 B9 Z false w9 s72 := v0_0.emit (v := 1048576 * ztW s_0) (by rw [show s_0 268 9 = s0 268 9 from by omega]; omega) rfl (by omega) (by omega) (by rw [E53, xU_k _ _ _ (by first | decide | omega), H43.1, H39]; rw [Int.add_zero]) (by omega) (by omega) (by rw [E53, xU_k _ _ _ (by first | decide | omega), F43 278 (by omega)])
        refine lv_goto (tgt := 0) hx hb dX11_closesSums_56 (by decide) ?_
        exact ih0 s72 H locs ls hF86 q73 q74 q75 q76 q77 q78 q79 q80 q81 q82 q84 q85 (X53) (by have hm := hm_0 (); omega) hW (lv_sub hl [0, 1] rfl)
      refine x_iload_n hx hb hl 1 rfl dX11_closesSums_17 rfl ?_
      refine x_if_eq (tgt := 59) hx hb rq dX11_closesSums_18 (by decide) (fun c87 => ?_) (fun c87 => ?_)
      · skip
        rw [eQ]
        exact x_vret hx hb hr hlk hW ⟨hF_0, ⟨q0_0, q0_1, q0_2, q0_3, q0_4, q0_5, q0_6, q0_7, q0_8, q0_9, q0_10, q0_11, trivial⟩, ⟨v0_0, by omega, by omega⟩⟩ dX11_closesSums_59
      refine x_aload_n hx hb hl 0 rfl dX11_closesSums_21 rfl ?_
      refine x_goi (x_runV (As := []) hx hb hml hown hT hE hW hl.1 (Or.inl (by decide)) (so_268 h0 g _) rfl cf_X11_waitTop wq1507 wq123 wq1505 (c_X11_waitTopK l D g T h0 s_0 hW.2.1 (v0_0.wt) q0_0 q0_1 q0_2 q0_3) ⟨rfl, rfl, ⟨by decide, by decide⟩, ⟨by decide, by decide⟩⟩ rfl rfl (Nat.le_of_ble_eq_true rfl) dX11_closesSums_22) hW (fun x88 s89 H locs rx88 hp90 hW => ?_)
      obtain ⟨es89, hp90⟩ := hp90
      subst es89
      have ghp90 := hp90
      have H22 := ghp90
      refine x_iconst hx hb dX11_closesSums_25 ?_
      refine x_icmp_eq (tgt := 37) hx hb rx88 (by decide) dX11_closesSums_26 (by decide) (fun c91 => ?_) (fun c91 => ?_)
      · skip
        refine x_aload_n hx hb hl 0 rfl dX11_closesSums_37 rfl ?_
        refine x_aload_n hx hb hl 0 rfl dX11_closesSums_38 rfl ?_
        refine x_goi (x_runV (As := []) hx hb hml hown hT hE hW hl.1 (Or.inl (by decide)) (so_268 h0 g _) rfl cf_X11_waitTop wq1507 wq123 wq1505 (c_X11_waitTopK l D g T h0 s_0 hW.2.1 (v0_0.wt) q0_0 q0_1 q0_2 q0_3) ⟨rfl, rfl, ⟨by decide, by decide⟩, ⟨by decide, by decide⟩⟩ rfl rfl (Nat.le_of_ble_eq_true rfl) dX11_closesSums_39) hW (fun x92 s93 H locs rx92 hp94 hW => ?_)
        obtain ⟨es93, hp94⟩ := hp94
        subst es93
        have ghp94 := hp94
        have H39 := ghp94
        have N39 := v0_0.ne (by omega)
        refine x_iconst hx hb dX11_closesSums_42 ?_
        refine x_gov (x_runV (As := [.int (xJ x92), .int (xJ 0)]) hx hb hml hown hT hE hW hl.1 (Or.inl (by decide)) (so_268 h0 g _) rfl cf_X11_notes wq1493 wq121 wq1491 (c_X11_notesK l D g T h0 s_0 hW.2.1 x92 rx92 0 (by decide) (by omega) (by omega) (by omega) q0_0 q0_1 q0_2 q0_3) ⟨rfl, rfl, ⟨by decide, by decide⟩, ⟨by decide, by decide⟩⟩ rfl rfl (Nat.le_of_ble_eq_true rfl) dX11_closesSums_43) hW (fun s96 H locs hp97 hW => ?_)
        obtain ⟨fs96, hp97⟩ := hp97
        have hF98 := hF_0.call fs96 (fun k h => by omega)
        have ghp97 := hp97.2
        have H43 := ghp97
        have F43 := fs96
        refine x_aload_n hx hb hl 0 rfl dX11_closesSums_46 rfl ?_
        refine x_aload_n hx hb hl 0 rfl dX11_closesSums_47 rfl ?_
        refine x_get (j := 15) (v := .int (xJ (s96 268 15))) hx hb hown hT hE hW cls_X11 (Or.inl (by decide)) (so_268 h0 g _) (by decide) rfl wq1200 dX11_closesSums_48 ?_
        refine x_rd hW (fun x99 ex99 rx99 => ?_)
        have fx99 : x99 = s_0 268 15 := ex99.trans hp97.1.2.2.2.2.2.2.2.2.2.2.1
        refine x_iconst hx hb dX11_closesSums_51 ?_
        refine x_isub hx hb dX11_closesSums_52 ?_
        refine x_put (j := 15) hx hb hown hT hE hW cls_X11 (by decide) (fun σ => so_268 h0 g σ) (by decide) (st_X11_15 h0 s96 268 (x99 - 1)) (ln_X11_15 h0 _ _) wq1200 rfl rfl rfl (by omega) dX11_closesSums_53 (fun H locs s100 es100 hW => ?_)
        have q101 : IMn s100 := by rw [es100]; exact IMn_268 hp97.1.1 (by omega)
        have q102 : IMk s100 := by rw [es100]; exact IMk_268 hp97.1.2.1 (by omega)
        have q103 : IMo s100 := by rw [es100]; exact IMo_o (by unfold suIMo; first | decide | omega) hp97.1.2.2.1
        have q104 : IR s100 := by rw [es100]; exact IR_268 hp97.1.2.2.2.1 (by omega)
        have q105 : s100 268 8 = s0 268 8 := (show s100 268 8 = s96 268 8 from by rw [es100, xU_j _ _ (by decide)]).trans (hp97.1.2.2.2.2.1.trans q0_4)
        have q106 : s100 268 58 = s0 268 58 := (show s100 268 58 = s96 268 58 from by rw [es100, xU_j _ _ (by decide)]).trans (hp97.1.2.2.2.2.2.1.trans q0_5)
        have q107 : s100 268 17 = s0 268 17 := (show s100 268 17 = s96 268 17 from by rw [es100, xU_j _ _ (by decide)]).trans (hp97.1.2.2.2.2.2.2.1.trans q0_6)
        have q108 : s100 268 9 = s0 268 9 := (show s100 268 9 = s96 268 9 from by rw [es100, xU_j _ _ (by decide)]).trans (hp97.1.2.2.2.2.2.2.2.1.trans q0_7)
        have q109 : s100 268 10 = s0 268 10 := (show s100 268 10 = s96 268 10 from by rw [es100, xU_j _ _ (by decide)]).trans (hp97.1.2.2.2.2.2.2.2.2.1.trans q0_8)
        have q110 : s100 268 13 = s0 268 13 := (show s100 268 13 = s96 268 13 from by rw [es100, xU_j _ _ (by decide)]).trans (hp97.1.2.2.2.2.2.2.2.2.2.1.trans q0_9)
        have q111 : s100 268 15 = (x99 - 1) := by rw [es100, xU_s]
        have q112 : s100 268 16 = s0 268 16 := (show s100 268 16 = s96 268 16 from by rw [es100, xU_j _ _ (by decide)]).trans (hp97.1.2.2.2.2.2.2.2.2.2.2.2.1.trans q0_10)
        have q113 : s100 268 48 = s0 268 48 := (show s100 268 48 = s96 268 48 from by rw [es100, xU_j _ _ (by decide)]).trans (hp97.1.2.2.2.2.2.2.2.2.2.2.2.2.1.trans q0_11)
        have hF114 := hF98.put es100 (by omega)
        have E53 := es100
        have G53 : s100 268 14 = s_0 268 14 + 1 := by
            rw [E53, xU_j _ _ (by decide)]; have y := H43.2; omega
        have X53 : zER f9 n9 qb b K9 b9 B9 Z false w9 s100 := v0_0.emit (v := 1048576 * ztW s_0) (by rw [show s_0 268 9 = s0 268 9 from by omega]; omega) rfl (by omega) (by omega) (by rw [E53, xU_k _ _ _ (by first | decide | omega), H43.1, H39]; rw [Int.add_zero]) (by omega) (by omega) (by rw [E53, xU_k _ _ _ (by first | decide | omega), F43 278 (by omega)])
        refine lv_goto (tgt := 0) hx hb dX11_closesSums_56 (by decide) ?_
        exact ih0 s100 H locs ls hF114 q101 q102 q103 q104 q105 q106 q107 q108 q109 q110 q112 q113 (X53) (by have hm := hm_0 (); omega) hW (lv_sub hl [0, 1] rfl)
      refine x_aload_n hx hb hl 0 rfl dX11_closesSums_29 rfl ?_
      refine x_goi (x_runV (As := []) hx hb hml hown hT hE hW hl.1 (Or.inl (by decide)) (so_268 h0 g _) rfl cf_X11_waitTop wq1507 wq123 wq1505 (c_X11_waitTopK l D g T h0 s_0 hW.2.1 (v0_0.wt) q0_0 q0_1 q0_2 q0_3) ⟨rfl, rfl, ⟨by decide, by decide⟩, ⟨by decide, by decide⟩⟩ rfl rfl (Nat.le_of_ble_eq_true rfl) dX11_closesSums_30) hW (fun x115 s116 H locs rx115 hp117 hW => ?_)
      obtain ⟨es116, hp117⟩ := hp117
      subst es116
      have ghp117 := hp117
      have H30 := ghp117
      refine x_iconst hx hb dX11_closesSums_33 ?_
      refine x_icmp_ne (tgt := 59) hx hb rx115 (by decide) dX11_closesSums_34 (by decide) (fun c118 => ?_) (fun c118 => ?_)
      · skip
        rw [eQ]
        exact x_vret hx hb hr hlk hW ⟨hF_0, ⟨q0_0, q0_1, q0_2, q0_3, q0_4, q0_5, q0_6, q0_7, q0_8, q0_9, q0_10, q0_11, trivial⟩, ⟨v0_0, by omega, by omega⟩⟩ dX11_closesSums_59
      refine x_aload_n hx hb hl 0 rfl dX11_closesSums_37 rfl ?_
      refine x_aload_n hx hb hl 0 rfl dX11_closesSums_38 rfl ?_
      refine x_goi (x_runV (As := []) hx hb hml hown hT hE hW hl.1 (Or.inl (by decide)) (so_268 h0 g _) rfl cf_X11_waitTop wq1507 wq123 wq1505 (c_X11_waitTopK l D g T h0 s_0 hW.2.1 (v0_0.wt) q0_0 q0_1 q0_2 q0_3) ⟨rfl, rfl, ⟨by decide, by decide⟩, ⟨by decide, by decide⟩⟩ rfl rfl (Nat.le_of_ble_eq_true rfl) dX11_closesSums_39) hW (fun x119 s120 H locs rx119 hp121 hW => ?_)
      obtain ⟨es120, hp121⟩ := hp121
      subst es120
      have ghp121 := hp121
      have H39 := ghp121
      have N39 := v0_0.ne (by omega)
      refine x_iconst hx hb dX11_closesSums_42 ?_
      refine x_gov (x_runV (As := [.int (xJ x119), .int (xJ 0)]) hx hb hml hown hT hE hW hl.1 (Or.inl (by decide)) (so_268 h0 g _) rfl cf_X11_notes wq1493 wq121 wq1491 (c_X11_notesK l D g T h0 s_0 hW.2.1 x119 rx119 0 (by decide) (by omega) (by omega) (by omega) q0_0 q0_1 q0_2 q0_3) ⟨rfl, rfl, ⟨by decide, by decide⟩, ⟨by decide, by decide⟩⟩ rfl rfl (Nat.le_of_ble_eq_true rfl) dX11_closesSums_43) hW (fun s123 H locs hp124 hW => ?_)
      obtain ⟨fs123, hp124⟩ := hp124
      have hF125 := hF_0.call fs123 (fun k h => by omega)
      have ghp124 := hp124.2
      have H43 := ghp124
      have F43 := fs123
      refine x_aload_n hx hb hl 0 rfl dX11_closesSums_46 rfl ?_
      refine x_aload_n hx hb hl 0 rfl dX11_closesSums_47 rfl ?_
      refine x_get (j := 15) (v := .int (xJ (s123 268 15))) hx hb hown hT hE hW cls_X11 (Or.inl (by decide)) (so_268 h0 g _) (by decide) rfl wq1200 dX11_closesSums_48 ?_
      refine x_rd hW (fun x126 ex126 rx126 => ?_)
      have fx126 : x126 = s_0 268 15 := ex126.trans hp124.1.2.2.2.2.2.2.2.2.2.2.1
      refine x_iconst hx hb dX11_closesSums_51 ?_
      refine x_isub hx hb dX11_closesSums_52 ?_
      refine x_put (j := 15) hx hb hown hT hE hW cls_X11 (by decide) (fun σ => so_268 h0 g σ) (by decide) (st_X11_15 h0 s123 268 (x126 - 1)) (ln_X11_15 h0 _ _) wq1200 rfl rfl rfl (by omega) dX11_closesSums_53 (fun H locs s127 es127 hW => ?_)
      have q128 : IMn s127 := by rw [es127]; exact IMn_268 hp124.1.1 (by omega)
      have q129 : IMk s127 := by rw [es127]; exact IMk_268 hp124.1.2.1 (by omega)
      have q130 : IMo s127 := by rw [es127]; exact IMo_o (by unfold suIMo; first | decide | omega) hp124.1.2.2.1
      have q131 : IR s127 := by rw [es127]; exact IR_268 hp124.1.2.2.2.1 (by omega)
      have q132 : s127 268 8 = s0 268 8 := (show s127 268 8 = s123 268 8 from by rw [es127, xU_j _ _ (by decide)]).trans (hp124.1.2.2.2.2.1.trans q0_4)
      have q133 : s127 268 58 = s0 268 58 := (show s127 268 58 = s123 268 58 from by rw [es127, xU_j _ _ (by decide)]).trans (hp124.1.2.2.2.2.2.1.trans q0_5)
      have q134 : s127 268 17 = s0 268 17 := (show s127 268 17 = s123 268 17 from by rw [es127, xU_j _ _ (by decide)]).trans (hp124.1.2.2.2.2.2.2.1.trans q0_6)
      have q135 : s127 268 9 = s0 268 9 := (show s127 268 9 = s123 268 9 from by rw [es127, xU_j _ _ (by decide)]).trans (hp124.1.2.2.2.2.2.2.2.1.trans q0_7)
      have q136 : s127 268 10 = s0 268 10 := (show s127 268 10 = s123 268 10 from by rw [es127, xU_j _ _ (by decide)]).trans (hp124.1.2.2.2.2.2.2.2.2.1.trans q0_8)
      have q137 : s127 268 13 = s0 268 13 := (show s127 268 13 = s123 268 13 from by rw [es127, xU_j _ _ (by decide)]).trans (hp124.1.2.2.2.2.2.2.2.2.2.1.trans q0_9)
      have q138 : s127 268 15 = (x126 - 1) := by rw [es127, xU_s]
      have q139 : s127 268 16 = s0 268 16 := (show s127 268 16 = s123 268 16 from by rw [es127, xU_j _ _ (by decide)]).trans (hp124.1.2.2.2.2.2.2.2.2.2.2.2.1.trans q0_10)
      have q140 : s127 268 48 = s0 268 48 := (show s127 268 48 = s123 268 48 from by rw [es127, xU_j _ _ (by decide)]).trans (hp124.1.2.2.2.2.2.2.2.2.2.2.2.2.1.trans q0_11)
      have hF141 := hF125.put es127 (by omega)
      have E53 := es127
      have G53 : s127 268 14 = s_0 268 14 + 1 := by
          rw [E53, xU_j _ _ (by decide)]; have y := H43.2; omega
      have X53 : zER f9 n9 qb b K9 b9 B9 Z false w9 s127 := v0_0.emit (v := 1048576 * ztW s_0) (by rw [show s_0 268 9 = s0 268 9 from by omega]; omega) rfl (by omega) (by omega) (by rw [E53, xU_k _ _ _ (by first | decide | omega), H43.1, H39]; rw [Int.add_zero]) (by omega) (by omega) (by rw [E53, xU_k _ _ _ (by first | decide | omega), F43 278 (by omega)])
      refine lv_goto (tgt := 0) hx hb dX11_closesSums_56 (by decide) ?_
      exact ih0 s127 H locs ls hF141 q128 q129 q130 q131 q132 q133 q134 q135 q136 q137 q139 q140 (X53) (by have hm := hm_0 (); omega) hW (lv_sub hl [0, 1] rfl)
  exact L0 ((s0 268 15 : Int).toNat + 1) s0 H locs ls hF p0 p1 p2 p3 k268_8 k268_58 k268_17 k268_9 k268_10 k268_13 k268_16 k268_48 (hz) (Nat.lt_succ_self _) hW (lv_sub hl [0, 1] rfl)
set_option maxHeartbeats 4000000 in
set_option maxRecDepth 100000 in
theorem c_X11_hasOpenSumK (l : Launch) (D : va_G) (g : xG) (T : Nat × Nat × Nat) (h0 : Nat) (s0 : xS) (hσ : xRR s0) (b : Int) (rb : xR b) (f9 : Int → Int) (n9 : Int) (qb : Int) (K9 : Int) (b9 : Int) (B9 : Int → Int) (Z : Int × Int × Int × (Int → Int)) (w9 : Int → Int) (hz : zER f9 n9 qb b K9 b9 B9 Z false w9 s0) (p0 : IMn s0) (p1 : IMk s0) (p2 : IMo s0) (p3 : IR s0) : Met l yX11_hasOpenSum (xws yX11_hasOpenSum cX11_hasOpenSum 3 (some .boolean)) { frames := 0, cells := 0, slots := 0, locals := 0 } (xP [.ref (h0 + 268), .int (xJ b)] D g T h0 s0) (xQi D g h0 (fun r τ => s0 = τ ∧ ((r = 1 ∧ 0 < zop (zls (s0 278) b (s0 268 15 - b).toNat)) ∨ (r = 0 ∧ zop (zls (s0 278) b (s0 268 15 - b).toNat) = 0)))) 0 0 (xA h0) := by
  refine x_met hσ (by decide) (Nat.le_of_ble_eq_true rfl) ?_
  intro p e s m args below meth c hx hb hr hml hown hT hlk hnm hE hW ls hl
  have hl : lv_has ls 3 [(0, .ref (h0 + 268)), (1, .int (xJ b))] := hl
  obtain ⟨Q, eQ⟩ : ∃ Q, Q = MQ below (xQi D g h0 (fun r τ => s0 = τ ∧ ((r = 1 ∧ 0 < zop (zls (s0 278) b (s0 268 15 - b).toNat)) ∨ (r = 0 ∧ zop (zls (s0 278) b (s0 268 15 - b).toNat) = 0)))) args s 0 0 (xA h0) := ⟨_, rfl⟩
  rw [← eQ]
  generalize hHe : ([] : List Loc) = locs at hW ⊢
  obtain ⟨H, eH⟩ : ∃ H, H = s.heap := ⟨_, rfl⟩
  rw [← eH] at hW ⊢
  have k268_8 : s0 268 8 = s0 268 8 := rfl
  have k268_58 : s0 268 58 = s0 268 58 := rfl
  have k268_17 : s0 268 17 = s0 268 17 := rfl
  have k268_48 : s0 268 48 = s0 268 48 := rfl
  have b0 := hz.b
  have s9 := zls_sh _ hz.1.sh
  refine x_iload_n hx hb hl 1 rfl dX11_hasOpenSum_0 rfl ?_
  refine lv_istore_n (lv' := [(2, .int (xJ b)), (0, .ref (h0 + 268)), (1, .int (xJ b))]) hx hb dX11_hasOpenSum_1 rfl hl (by decide) rfl (fun ls hl => ?_)
  have L2 : ∀ (fu : Nat) (i2_2 : Int) (ls : Array Slot), (xR i2_2) → (b ≤ i2_2 ∧ i2_2 ≤ s0 268 15) → (∀ i, b ≤ i → i < i2_2 → s0 278 i < 14680064) → (260 - i2_2).toNat < fu → lv_has ls 3 [(0, .ref (h0 + 268)), (2, .int (xJ i2_2))] → W p l e { frames := 0, cells := 0, slots := 0, locals := 0 } s m args below meth c H locs 0 0 Q (F0 m 2 ls []) := by
    intro fu
    induction fu with
    | zero => intro i2_2 ls ri2_2 v2_0 v2_1 hm; exact absurd hm (Nat.not_lt_zero _)
    | succ fu ih2 =>
      intro i2_2 ls ri2_2 v2_0 v2_1 hm  hl
      have hm_2 := fun (_ : Unit) => hm
      clear hm
      refine x_iload_n hx hb hl 1 rfl dX11_hasOpenSum_2 rfl ?_
      refine x_aload_n hx hb hl 0 rfl dX11_hasOpenSum_3 rfl ?_
      refine x_get (j := 15) (v := .int (xJ (s0 268 15))) hx hb hown hT hE hW cls_X11 (Or.inl (by decide)) (so_268 h0 g _) (by decide) rfl wq1200 dX11_hasOpenSum_4 ?_
      refine x_rd hW (fun x1 ex1 rx1 => ?_)
      refine x_icmp_ge (tgt := 32) hx hb ri2_2 rx1 dX11_hasOpenSum_7 (by decide) (fun c2 => ?_) (fun c2 => ?_)
      · skip
        refine x_iconst hx hb dX11_hasOpenSum_32 ?_
        rw [eQ]
        exact x_zret hx hb hr hlk hW (by omega) ⟨rfl, Or.inr ⟨by omega, zls_op _ (fun i i1 i2 => v2_1 i i1 (by omega))⟩⟩ dX11_hasOpenSum_33
      refine x_aload_n hx hb hl 0 rfl dX11_hasOpenSum_10 rfl ?_
      refine x_get (j := 19) (v := .ref (h0 + 278)) hx hb hown hT hE hW cls_X11 (Or.inl (by decide)) (so_268 h0 g _) (by decide) rfl wq1204 dX11_hasOpenSum_11 ?_
      refine x_iload_n hx hb hl 1 rfl dX11_hasOpenSum_14 rfl ?_
      refine x_iald hx hb hE hW (Or.inl (by decide)) (sa_278 h0 g _) (by omega) (by decide) dX11_hasOpenSum_15 ?_
      refine x_rd hW (fun x3 ex3 rx3 => ?_)
      have V15 : x3 = s0 278 i2_2 := ex3
      have S15 := s9 i2_2 (by omega) (by omega)
      refine lv_ldc (v := xJ 1048576) hx hb hown (hT _ wq1482) dX11_hasOpenSum_16 ?_
      refine x_idiv hx hb rx3 (by decide) (by omega) (by decide) dX11_hasOpenSum_18 ?_
      refine x_bipush hx hb dX11_hasOpenSum_19 (by decide) ?_
      refine x_icmp_ne (tgt := 26) hx hb (by omega) (by decide) dX11_hasOpenSum_21 (by decide) (fun c4 => ?_) (fun c4 => ?_)
      · skip
        refine x_iinc (lv' := [(2, .int (xJ (i2_2 + 1))), (0, .ref (h0 + 268))]) hx hb hl 1 rfl dX11_hasOpenSum_26 (by decide) rfl (fun ls hl => ?_)
        refine lv_goto (tgt := 2) hx hb dX11_hasOpenSum_29 (by decide) ?_
        exact ih2 (i2_2 + 1) ls (by omega) (by omega) (fun i i1 i2 => (Classical.em (i < i2_2)).elim (fun h => v2_1 i i1 h) (fun h => by rw [show i = i2_2 from by omega]; omega)) (by have hm := hm_2 (); omega)  (lv_sub hl [1, 0] rfl)
      refine x_iconst hx hb dX11_hasOpenSum_24 ?_
      rw [eQ]
      exact x_zret hx hb hr hlk hW (by omega) ⟨rfl, Or.inl ⟨by omega, zls_oq _ i2_2 (by omega) (by omega) (by omega)⟩⟩ dX11_hasOpenSum_25
  exact L2 ((260 - b : Int).toNat + 1) b ls rb (by omega) (fun i i1 i2 => by omega) (Nat.lt_succ_self _)  (lv_sub hl [1, 0] rfl)
set_option maxHeartbeats 4000000 in
set_option maxRecDepth 100000 in
theorem c_X11_readsFactorK (l : Launch) (D : va_G) (g : xG) (T : Nat × Nat × Nat) (h0 : Nat) (s0 : xS) (hσ : xRR s0) (f9 : Int → Int) (n9 : Int) (qb : Int) (b : Int) (K9 : Int) (b9 : Int) (B9 : Int → Int) (Z : Int × Int × Int × (Int → Int)) (w9 : Int → Int) (hf : xm8 (s0 276) = f9 ∧ s0 268 10 = n9) (hz : zER f9 n9 qb b K9 b9 B9 Z true w9 s0) (hqb : 0 ≤ qb ∧ s0 268 13 ≤ 6) (p0 : IMn s0) (p1 : IMk s0) (p2 : IMo s0) (p3 : IR s0) : Met l yX11_readsFactor (xws yX11_readsFactor cX11_readsFactor 2 (some .boolean)) { frames := 3, cells := 0, slots := 0, locals := 61 } (xP [.ref (h0 + 268)] D g T h0 s0) (xQi D g h0 (fun r τ => xFr (fun k => k = 268 ∨ k = 277 ∨ k = 278) s0 τ ∧ (((IMn τ) ∧ (IMk τ) ∧ (IMo τ) ∧ (IR τ) ∧ (τ 268 8 = s0 268 8) ∧ (τ 268 58 = s0 268 58) ∧ (τ 268 17 = s0 268 17) ∧ (τ 268 10 = s0 268 10) ∧ (τ 268 16 = s0 268 16) ∧ (τ 268 48 = s0 268 48) ∧ True) ∧ ((r = 0 ∧ Z.1 ≠ 0 ∧ τ 268 11 = Z.1) ∨ (r = 1 ∧ zER f9 n9 qb b K9 b9 B9 Z false w9 τ ∧ s0 268 9 + 1 ≤ τ 268 9 ∧ τ 268 13 ≤ 6))))) 0 0 (xA h0) := by
  refine x_met hσ (by decide) (Nat.le_of_ble_eq_true rfl) ?_
  intro p e s m args below meth c hx hb hr hml hown hT hlk hnm hE hW ls hl
  have hl : lv_has ls 2 [(0, .ref (h0 + 268))] := hl
  obtain ⟨Q, eQ⟩ : ∃ Q, Q = MQ below (xQi D g h0 (fun r τ => xFr (fun k => k = 268 ∨ k = 277 ∨ k = 278) s0 τ ∧ (((IMn τ) ∧ (IMk τ) ∧ (IMo τ) ∧ (IR τ) ∧ (τ 268 8 = s0 268 8) ∧ (τ 268 58 = s0 268 58) ∧ (τ 268 17 = s0 268 17) ∧ (τ 268 10 = s0 268 10) ∧ (τ 268 16 = s0 268 16) ∧ (τ 268 48 = s0 268 48) ∧ True) ∧ ((r = 0 ∧ Z.1 ≠ 0 ∧ τ 268 11 = Z.1) ∨ (r = 1 ∧ zER f9 n9 qb b K9 b9 B9 Z false w9 τ ∧ s0 268 9 + 1 ≤ τ 268 9 ∧ τ 268 13 ≤ 6))))) args s 0 0 (xA h0) := ⟨_, rfl⟩
  rw [← eQ]
  generalize hHe : ([] : List Loc) = locs at hW ⊢
  obtain ⟨H, eH⟩ : ∃ H, H = s.heap := ⟨_, rfl⟩
  rw [← eH] at hW ⊢
  have hF : xFr (fun k => k = 268 ∨ k = 277 ∨ k = 278) s0 s0 := xFr.rf
  have k268_8 : s0 268 8 = s0 268 8 := rfl
  have k268_58 : s0 268 58 = s0 268 58 := rfl
  have k268_17 : s0 268 17 = s0 268 17 := rfl
  have k268_10 : s0 268 10 = s0 268 10 := rfl
  have k268_16 : s0 268 16 = s0 268 16 := rfl
  have k268_48 : s0 268 48 = s0 268 48 := rfl
  have k268_9 : s0 268 9 = s0 268 9 := rfl
  have k268_13 : s0 268 13 = s0 268 13 := rfl
  have k268_14 : s0 268 14 = s0 268 14 := rfl
  have k268_15 : s0 268 15 = s0 268 15 := rfl
  have hf2 := hf.2
  have L0 : ∀ (fu : Nat) (s_0 : xS) (H : Heap) (locs : List Loc) (ls : Array Slot), (xFr (fun k => k = 268 ∨ k = 277 ∨ k = 278) s0 s_0) → (IMn s_0) → (IMk s_0) → (IMo s_0) → (IR s_0) → (s_0 268 8 = s0 268 8) → (s_0 268 58 = s0 268 58) → (s_0 268 17 = s0 268 17) → (s_0 268 10 = s0 268 10) → (s_0 268 16 = s0 268 16) → (s_0 268 48 = s0 268 48) → (s_0 268 14 = s0 268 14) → (zER f9 n9 qb b K9 b9 B9 Z true w9 s_0) → (s0 268 9 ≤ s_0 268 9 ∧ s_0 268 13 ≤ 6) → (241 - s_0 268 9).toNat < fu → xW D g h0 s H locs s_0 → lv_has ls 2 [(0, .ref (h0 + 268))] → W p l e { frames := 3, cells := 0, slots := 0, locals := 61 } s m args below meth c H locs 0 0 Q (F0 m 0 ls []) := by
    intro fu
    induction fu with
    | zero => intro s_0 H locs ls hF_0 q0_0 q0_1 q0_2 q0_3 q0_4 q0_5 q0_6 q0_7 q0_8 q0_9 q0_12 v0_0 v0_1 hm; exact absurd hm (Nat.not_lt_zero _)
    | succ fu ih0 =>
      intro s_0 H locs ls hF_0 q0_0 q0_1 q0_2 q0_3 q0_4 q0_5 q0_6 q0_7 q0_8 q0_9 q0_12 v0_0 v0_1 hm hW hl
      have hm_0 := fun (_ : Unit) => hm
      clear hm
      have b0 := v0_0.b
      have o0 := v0_0.o
      have r0 : 0 ≤ s_0 268 9 ∧ s_0 268 9 ≤ s_0 268 10 ∧ s_0 268 10 ≤ 240 := q0_3
      refine x_aload_n hx hb hl 0 rfl dX11_readsFactor_0 rfl ?_
      refine x_goi (x_runV (As := []) hx hb hml hown hT hE hW hl.1 (Or.inl (by decide)) (so_268 h0 g _) rfl cf_X11_here wq1391 wq106 wq1389 (c_X11_here l D g T h0 s_0 hW.2.1 q0_0 q0_1 q0_2 q0_3) ⟨rfl, rfl, ⟨by decide, by decide⟩, ⟨by decide, by decide⟩⟩ rfl rfl (Nat.le_of_ble_eq_true rfl) dX11_readsFactor_1) hW (fun x1 s2 H locs rx1 hp3 hW => ?_)
      obtain ⟨es2, hp3⟩ := hp3
      subst es2
      have ghp3 := hp3
      have C1 : x1 = zch f9 n9 (s_0 268 9) := by
        have q8 := ghp3.1
        rw [zhC_ch, show s_0 276 = s0 276 from hF_0 276 (by first | decide | omega), hf.1, show s_0 268 10 = n9 from by omega] at q8
        exact q8
      have L1 : zch f9 n9 (s_0 268 9) ≠ -1 → s_0 268 9 < n9 := zch_lt
      refine x_bipush hx hb dX11_readsFactor_4 (by decide) ?_
      refine x_icmp_ne (tgt := 20) hx hb rx1 (by decide) dX11_readsFactor_6 (by decide) (fun c4 => ?_) (fun c4 => ?_)
      · skip
        refine x_aload_n hx hb hl 0 rfl dX11_readsFactor_20 rfl ?_
        refine x_goi (x_runV (As := []) hx hb hml hown hT hE hW hl.1 (Or.inl (by decide)) (so_268 h0 g _) rfl cf_X11_isDigit wq1485 wq119 wq1483 (c_X11_isDigitK l D g T h0 s_0 hW.2.1 f9 n9 (by first | exact hf | exact ⟨by rw [hF_0 276 (by first | decide | omega)]; exact hf.1, by omega⟩) q0_0 q0_1 q0_2 q0_3) ⟨rfl, rfl, ⟨by decide, by decide⟩, ⟨by decide, by decide⟩⟩ rfl rfl (Nat.le_of_ble_eq_true rfl) dX11_readsFactor_21) hW (fun x5 s6 H locs rx5 hp7 hW => ?_)
        obtain ⟨es6, hp7⟩ := hp7
        subst es6
        have ghp7 := hp7
        have H21 := ghp7
        refine x_if_eq (tgt := 47) hx hb rx5 dX11_readsFactor_24 (by decide) (fun c8 => ?_) (fun c8 => ?_)
        · skip
          refine x_aload_n hx hb hl 0 rfl dX11_readsFactor_47 rfl ?_
          refine x_goi (x_runV (As := []) hx hb hml hown hT hE hW hl.1 (Or.inl (by decide)) (so_268 h0 g _) rfl cf_X11_here wq1391 wq106 wq1389 (c_X11_here l D g T h0 s_0 hW.2.1 q0_0 q0_1 q0_2 q0_3) ⟨rfl, rfl, ⟨by decide, by decide⟩, ⟨by decide, by decide⟩⟩ rfl rfl (Nat.le_of_ble_eq_true rfl) dX11_readsFactor_48) hW (fun x9 s10 H locs rx9 hp11 hW => ?_)
          obtain ⟨es10, hp11⟩ := hp11
          subst es10
          have ghp11 := hp11
          have C48 : x9 = zch f9 n9 (s_0 268 9) := by
            have q8 := ghp11.1
            rw [zhC_ch, show s_0 276 = s0 276 from hF_0 276 (by first | decide | omega), hf.1, show s_0 268 10 = n9 from by omega] at q8
            exact q8
          have Z48 := zlt_cs (zch f9 n9 (s_0 268 9))
          refine x_goi (x_runS (As := [.int (xJ x9)]) hx hb hml hown hT hE hW hl.1 cf_X11_factOf wq1496 wq1495 (c_X11_factOfK l D g T h0 s_0 hW.2.1 x9 rx9) ⟨rfl, rfl, ⟨by decide, by decide⟩, ⟨by decide, by decide⟩⟩ rfl rfl (Nat.le_of_ble_eq_true rfl) dX11_readsFactor_51) hW (fun x12 s13 H locs rx12 hp14 hW => ?_)
          obtain ⟨es13, hp14⟩ := hp14
          subst es13
          have ghp14 := hp14
          refine lv_istore_n (lv' := [(1, .int (xJ x12)), (0, .ref (h0 + 268))]) hx hb dX11_readsFactor_54 rfl hl (by decide) rfl (fun ls hl => ?_)
          refine x_iload_n hx hb hl 0 rfl dX11_readsFactor_55 rfl ?_
          refine x_iconst hx hb dX11_readsFactor_56 ?_
          refine x_icmp_ne (tgt := 70) hx hb rx12 (by decide) dX11_readsFactor_57 (by decide) (fun c15 => ?_) (fun c15 => ?_)
          · skip
            refine x_aload_n hx hb hl 1 rfl dX11_readsFactor_70 rfl ?_
            refine x_iconst hx hb dX11_readsFactor_71 ?_
            refine x_iload_n hx hb hl 0 rfl dX11_readsFactor_72 rfl ?_
            refine x_gov (x_runV (As := [.int (xJ 1), .int (xJ x12)]) hx hb hml hown hT hE hW hl.1 (Or.inl (by decide)) (so_268 h0 g _) rfl cf_X11_notes wq1493 wq121 wq1491 (c_X11_notesK l D g T h0 s_0 hW.2.1 1 (by decide) x12 rx12 (by have y := v0_0.b; omega) (by omega) (by omega) q0_0 q0_1 q0_2 q0_3) ⟨rfl, rfl, ⟨by decide, by decide⟩, ⟨by decide, by decide⟩⟩ rfl rfl (Nat.le_of_ble_eq_true rfl) dX11_readsFactor_73) hW (fun s17 H locs hp18 hW => ?_)
            obtain ⟨fs17, hp18⟩ := hp18
            have hF19 := hF_0.call fs17 (fun k h => by omega)
            have ghp18 := hp18.2
            have H73 := ghp18
            have F73 := fs17
            refine x_aload_n hx hb hl 1 rfl dX11_readsFactor_76 rfl ?_
            refine x_aload_n hx hb hl 1 rfl dX11_readsFactor_77 rfl ?_
            refine x_get (j := 9) (v := .int (xJ (s17 268 9))) hx hb hown hT hE hW cls_X11 (Or.inl (by decide)) (so_268 h0 g _) (by decide) rfl wq1194 dX11_readsFactor_78 ?_
            refine x_rd hW (fun x20 ex20 rx20 => ?_)
            have bx20 : 0 ≤ x20 ∧ x20 ≤ s17 268 10 ∧ s17 268 10 ≤ 240 := by rw [ex20]; exact hp18.1.2.2.2.1
            have fx20 : x20 = s_0 268 9 := ex20.trans hp18.1.2.2.2.2.2.2.2.1
            refine x_iconst hx hb dX11_readsFactor_81 ?_
            refine x_iadd hx hb dX11_readsFactor_82 ?_
            refine x_put (j := 9) hx hb hown hT hE hW cls_X11 (by decide) (fun σ => so_268 h0 g σ) (by decide) (st_X11_9 h0 s17 268 (x20 + 1)) (ln_X11_9 h0 _ _) wq1194 rfl rfl rfl (by omega) dX11_readsFactor_83 (fun H locs s21 es21 hW => ?_)
            have q22 : IMn s21 := by rw [es21]; exact IMn_268 hp18.1.1 (by omega)
            have q23 : IMk s21 := by rw [es21]; exact IMk_268 hp18.1.2.1 (by omega)
            have q24 : IMo s21 := by rw [es21]; exact IMo_o (by unfold suIMo; first | decide | omega) hp18.1.2.2.1
            have q25 : IR s21 := by rw [es21]; exact IR_268 hp18.1.2.2.2.1 (by omega)
            have q26 : s21 268 8 = s0 268 8 := (show s21 268 8 = s17 268 8 from by rw [es21, xU_j _ _ (by decide)]).trans (hp18.1.2.2.2.2.1.trans q0_4)
            have q27 : s21 268 58 = s0 268 58 := (show s21 268 58 = s17 268 58 from by rw [es21, xU_j _ _ (by decide)]).trans (hp18.1.2.2.2.2.2.1.trans q0_5)
            have q28 : s21 268 17 = s0 268 17 := (show s21 268 17 = s17 268 17 from by rw [es21, xU_j _ _ (by decide)]).trans (hp18.1.2.2.2.2.2.2.1.trans q0_6)
            have q29 : s21 268 9 = (x20 + 1) := by rw [es21, xU_s]
            have q30 : s21 268 10 = s0 268 10 := (show s21 268 10 = s17 268 10 from by rw [es21, xU_j _ _ (by decide)]).trans (hp18.1.2.2.2.2.2.2.2.2.1.trans q0_7)
            have q31 : s21 268 13 = s_0 268 13 := (show s21 268 13 = s17 268 13 from by rw [es21, xU_j _ _ (by decide)]).trans hp18.1.2.2.2.2.2.2.2.2.2.1
            have q32 : s21 268 15 = s_0 268 15 := (show s21 268 15 = s17 268 15 from by rw [es21, xU_j _ _ (by decide)]).trans hp18.1.2.2.2.2.2.2.2.2.2.2.1
            have q33 : s21 268 16 = s0 268 16 := (show s21 268 16 = s17 268 16 from by rw [es21, xU_j _ _ (by decide)]).trans (hp18.1.2.2.2.2.2.2.2.2.2.2.2.1.trans q0_8)
            have q34 : s21 268 48 = s0 268 48 := (show s21 268 48 = s17 268 48 from by rw [es21, xU_j _ _ (by decide)]).trans (hp18.1.2.2.2.2.2.2.2.2.2.2.2.2.1.trans q0_9)
            have hF35 := hF19.put es21 (by omega)
            have E83 := es21
            have G83 : s21 268 14 = s_0 268 14 + 1 := by
                rw [E83, xU_j _ _ (by decide)]; have y := H73.2; omega
            refine x_iconst hx hb dX11_readsFactor_86 ?_
            rw [eQ]
            exact x_zret hx hb hr hlk hW (by omega) ⟨hF35, ⟨q22, q23, q24, q25, q26, q27, q28, q30, q33, q34, trivial⟩, Or.inr ⟨by omega, v0_0.let_ (by omega) (by omega) rfl (by omega) (by rw [E83, xU_k _ _ _ (by first | decide | omega), H73.1, show (1048576 * 1 + x12 : Int) = 1048576 + zlt (zch f9 n9 (s_0 268 9)) from by omega]) (by omega) (by omega) (by rw [E83, xU_k _ _ _ (by first | decide | omega), F73 278 (by omega)]), by omega, by omega⟩⟩ dX11_readsFactor_87
          refine x_aload_n hx hb hl 1 rfl dX11_readsFactor_60 rfl ?_
          refine x_iconst hx hb dX11_readsFactor_61 ?_
          refine x_aload_n hx hb hl 1 rfl dX11_readsFactor_62 rfl ?_
          refine x_get (j := 9) (v := .int (xJ (s_0 268 9))) hx hb hown hT hE hW cls_X11 (Or.inl (by decide)) (so_268 h0 g _) (by decide) rfl wq1194 dX11_readsFactor_63 ?_
          refine x_rd hW (fun x36 ex36 rx36 => ?_)
          have bx36 : 0 ≤ x36 ∧ x36 ≤ s_0 268 10 ∧ s_0 268 10 ≤ 240 := by rw [ex36]; exact q0_3
          have q37 : s_0 268 9 = x36 := ex36.symm
          refine x_goi (x_runV (As := [.int (xJ 1), .int (xJ x36)]) hx hb hml hown hT hE hW hl.1 (Or.inl (by decide)) (so_268 h0 g _) rfl cf_X11_wrongAt wq1401 wq107 wq1399 (c_X11_wrongAtK l D g T h0 s_0 hW.2.1 1 (by decide) x36 rx36 (by omega) q0_0 q0_1 q0_2 q0_3) ⟨rfl, rfl, ⟨by decide, by decide⟩, ⟨by decide, by decide⟩⟩ rfl rfl (Nat.le_of_ble_eq_true rfl) dX11_readsFactor_66) hW (fun x38 s39 H locs rx38 hp40 hW => ?_)
          obtain ⟨fs39, hp40⟩ := hp40
          have hF41 := hF_0.call fs39 (fun k h => by omega)
          have ghp40 := hp40.2
          rw [eQ]
          exact x_zret hx hb hr hlk hW (by omega) ⟨hF41, ⟨hp40.1.1, hp40.1.2.1, hp40.1.2.2.1, hp40.1.2.2.2.1, (hp40.1.2.2.2.2.1.trans q0_4), (hp40.1.2.2.2.2.2.1.trans q0_5), (hp40.1.2.2.2.2.2.2.1.trans q0_6), (hp40.1.2.2.2.2.2.2.2.2.1.trans q0_7), (hp40.1.2.2.2.2.2.2.2.2.2.2.2.2.1.trans q0_8), (hp40.1.2.2.2.2.2.2.2.2.2.2.2.2.2.1.trans q0_9), trivial⟩, by
              have z := v0_0.1.one (by omega) (H21.resolve_left (fun q => by omega)).2 (by omega)
              rw [z]
              exact Or.inl ⟨by omega, (by show (-1000 - _ : Int) ≠ 0; omega), (by show _ = (-1000 - _ : Int); omega)⟩⟩ dX11_readsFactor_69
        refine x_aload_n hx hb hl 0 rfl dX11_readsFactor_27 rfl ?_
        refine x_goi (x_runV (As := []) hx hb hml hown hT hE hW hl.1 (Or.inl (by decide)) (so_268 h0 g _) rfl cf_X11_readsNumber wq1489 wq120 wq1487 (c_X11_readsNumberK l D g T h0 s_0 hW.2.1 f9 n9 (by first | exact hf | exact ⟨by rw [hF_0 276 (by first | decide | omega)]; exact hf.1, by omega⟩) ((H21.resolve_right (fun q => by omega)).2) q0_0 q0_1 q0_2 q0_3) ⟨rfl, rfl, ⟨by decide, by decide⟩, ⟨by decide, by decide⟩⟩ rfl rfl (Nat.le_of_ble_eq_true rfl) dX11_readsFactor_28) hW (fun x42 s43 H locs rx42 hp44 hW => ?_)
        obtain ⟨fs43, hp44⟩ := hp44
        have hF45 := hF_0.call fs43 (fun k h => by omega)
        have ghp44 := hp44.2
        have H28 := ghp44
        have F28 := fs43
        refine x_if_ne (tgt := 36) hx hb rx42 dX11_readsFactor_31 (by decide) (fun c46 => ?_) (fun c46 => ?_)
        · skip
          refine x_aload_n hx hb hl 0 rfl dX11_readsFactor_36 rfl ?_
          refine x_iconst hx hb dX11_readsFactor_37 ?_
          refine x_aload_n hx hb hl 0 rfl dX11_readsFactor_38 rfl ?_
          refine x_get (j := 12) (v := .int (xJ (s43 268 12))) hx hb hown hT hE hW cls_X11 (Or.inl (by decide)) (so_268 h0 g _) (by decide) rfl wq1197 dX11_readsFactor_39 ?_
          refine x_rd hW (fun x47 ex47 rx47 => ?_)
          have q48 : s43 268 12 = x47 := ex47.symm
          have N39 : (1048576 * 0 + x47 : Int) = (znr f9 n9 5 (s_0 268 9) 0).2 := by have e := H28.resolve_left (fun q => by omega); omega
          refine x_gov (x_runV (As := [.int (xJ 0), .int (xJ x47)]) hx hb hml hown hT hE hW hl.1 (Or.inl (by decide)) (so_268 h0 g _) rfl cf_X11_notes wq1493 wq121 wq1491 (c_X11_notesK l D g T h0 s43 hW.2.1 0 (by decide) x47 rx47 (by have y := v0_0.b; omega) (by omega) (by have y := znr_5 f9 n9 (s_0 268 9); omega) hp44.1.1 hp44.1.2.1 hp44.1.2.2.1 hp44.1.2.2.2.1) ⟨rfl, rfl, ⟨by decide, by decide⟩, ⟨by decide, by decide⟩⟩ rfl rfl (Nat.le_of_ble_eq_true rfl) dX11_readsFactor_42) hW (fun s50 H locs hp51 hW => ?_)
          obtain ⟨fs50, hp51⟩ := hp51
          have hF52 := hF45.call fs50 (fun k h => by omega)
          have ghp51 := hp51.2
          have H42 := ghp51
          have F42 := fs50
          refine x_iconst hx hb dX11_readsFactor_45 ?_
          rw [eQ]
          exact x_zret hx hb hr hlk hW (by omega) ⟨hF52, ⟨hp51.1.1, hp51.1.2.1, hp51.1.2.2.1, hp51.1.2.2.2.1, (hp51.1.2.2.2.2.1.trans (hp44.1.2.2.2.2.1.trans q0_4)), (hp51.1.2.2.2.2.2.1.trans (hp44.1.2.2.2.2.2.1.trans q0_5)), (hp51.1.2.2.2.2.2.2.1.trans (hp44.1.2.2.2.2.2.2.1.trans q0_6)), (hp51.1.2.2.2.2.2.2.2.2.1.trans (hp44.1.2.2.2.2.2.2.2.1.trans q0_7)), (hp51.1.2.2.2.2.2.2.2.2.2.2.2.1.trans (hp44.1.2.2.2.2.2.2.2.2.2.2.2.1.trans q0_8)), (hp51.1.2.2.2.2.2.2.2.2.2.2.2.2.1.trans (hp44.1.2.2.2.2.2.2.2.2.2.2.2.2.1.trans q0_9)), trivial⟩, by
              have e := H28.resolve_left (fun q => by omega)
              have d := (H21.resolve_right (fun q => by omega)).2
              have y := (znr_p (f := f9) (n := n9) 5 (s_0 268 9) 0).2.2 d (by decide)
              exact Or.inr ⟨by omega, v0_0.num d (by omega) (by rw [show s50 268 9 = (znr f9 n9 5 (s_0 268 9) 0).1 from by omega]; exact e.2.1) rfl (by omega) (by rw [H42.1, show s43 268 14 = s_0 268 14 from by omega, F28 277 (by omega), N39]) (by omega) (by omega) (by rw [F42 278 (by omega), F28 278 (by omega)]), by omega, by omega⟩⟩ dX11_readsFactor_46
        refine x_iconst hx hb dX11_readsFactor_34 ?_
        rw [eQ]
        exact x_zret hx hb hr hlk hW (by omega) ⟨hF45, ⟨hp44.1.1, hp44.1.2.1, hp44.1.2.2.1, hp44.1.2.2.2.1, (hp44.1.2.2.2.2.1.trans q0_4), (hp44.1.2.2.2.2.2.1.trans q0_5), (hp44.1.2.2.2.2.2.2.1.trans q0_6), (hp44.1.2.2.2.2.2.2.2.1.trans q0_7), (hp44.1.2.2.2.2.2.2.2.2.2.2.2.1.trans q0_8), (hp44.1.2.2.2.2.2.2.2.2.2.2.2.2.1.trans q0_9), trivial⟩, by
            have e := H28.resolve_right (fun q => by omega)
            have y := znr_p (f := f9) (n := n9) 5 (s_0 268 9) 0
            have z := v0_0.1.two (H21.resolve_right (fun q => by omega)).2 rfl e.2.1
            rw [z]
            exact Or.inl ⟨by omega, (by show (-2000 - _ : Int) ≠ 0; omega), (by show _ = (-2000 - _ : Int); omega)⟩⟩ dX11_readsFactor_35
      refine x_aload_n hx hb hl 0 rfl dX11_readsFactor_9 rfl ?_
      refine x_bipush hx hb dX11_readsFactor_10 (by decide) ?_
      refine x_goi (x_runV (As := [.int (xJ 14)]) hx hb hml hown hT hE hW hl.1 (Or.inl (by decide)) (so_268 h0 g _) rfl cf_X11_opens wq1480 wq118 wq1478 (c_X11_opensK l D g T h0 s_0 hW.2.1 14 (by decide) (by omega) (by omega) (by omega) (by have y := v0_0.o; omega) q0_0 q0_1 q0_2 q0_3) ⟨rfl, rfl, ⟨by decide, by decide⟩, ⟨by decide, by decide⟩⟩ rfl rfl (Nat.le_of_ble_eq_true rfl) dX11_readsFactor_12) hW (fun x53 s54 H locs rx53 hp55 hW => ?_)
      obtain ⟨fs54, hp55⟩ := hp55
      have hF56 := hF_0.call fs54 (fun k h => by omega)
      have ghp55 := hp55.2
      have G12 := ghp55
      refine x_if_ne (tgt := 0) hx hb rx53 dX11_readsFactor_15 (by decide) (fun c57 => ?_) (fun c57 => ?_)
      · skip
        exact ih0 s54 H locs ls hF56 hp55.1.1 hp55.1.2.1 hp55.1.2.2.1 hp55.1.2.2.2.1 (hp55.1.2.2.2.2.1.trans q0_4) (hp55.1.2.2.2.2.2.1.trans q0_5) (hp55.1.2.2.2.2.2.2.1.trans q0_6) (hp55.1.2.2.2.2.2.2.2.1.trans q0_7) (hp55.1.2.2.2.2.2.2.2.2.2.1.trans q0_8) (hp55.1.2.2.2.2.2.2.2.2.2.2.1.trans q0_9) (hp55.1.2.2.2.2.2.2.2.2.1.trans q0_12) (by have e := G12.resolve_left (fun q => by omega); exact v0_0.open_ (by omega) e.2.1 (by omega) (by omega) (fs54 277 (by first | decide | omega)) (by omega) (by omega) e.2.2.2.1 (by decide)) (by omega) (by have hm := hm_0 (); omega) hW (lv_sub hl [0] rfl)
      refine x_iconst hx hb dX11_readsFactor_18 ?_
      rw [eQ]
      exact x_zret hx hb hr hlk hW (by omega) ⟨hF56, ⟨hp55.1.1, hp55.1.2.1, hp55.1.2.2.1, hp55.1.2.2.2.1, (hp55.1.2.2.2.2.1.trans q0_4), (hp55.1.2.2.2.2.2.1.trans q0_5), (hp55.1.2.2.2.2.2.2.1.trans q0_6), (hp55.1.2.2.2.2.2.2.2.1.trans q0_7), (hp55.1.2.2.2.2.2.2.2.2.2.1.trans q0_8), (hp55.1.2.2.2.2.2.2.2.2.2.2.1.trans q0_9), trivial⟩, by
          have e := G12.resolve_right (fun q => by omega)
          have z := v0_0.1.five (by omega) (by omega)
          rw [z]
          exact Or.inl ⟨by omega, (by show (-5000 - _ : Int) ≠ 0; omega), (by show _ = (-5000 - _ : Int); omega)⟩⟩ dX11_readsFactor_19
  exact L0 ((241 - s0 268 9 : Int).toNat + 1) s0 H locs ls hF p0 p1 p2 p3 k268_8 k268_58 k268_17 k268_10 k268_16 k268_48 k268_14 (hz) (by omega) (Nat.lt_succ_self _) hW (lv_sub hl [0] rfl)

