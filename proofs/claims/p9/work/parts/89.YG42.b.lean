set_option maxHeartbeats 4000000 in
set_option maxRecDepth 100000 in
theorem c_X5_readClauseK (l : Launch) (D : va_G) (g : xG) (T : Nat × Nat × Nat) (h0 : Nat) (s0 : xS) (hσ : xRR s0) (x : Int) (rx : xR x) (i : Int) (ri : xR i) (f9 : Int → Int) (n9 : Int) (Z : zLT) (c9 : Int) (C9 : Int → Int) (L9 : Int → Int) (A9 : Int → Int) (B9 : Int → Int) (T9 : Int → Int) (hf : s0 2 = f9 ∧ s0 1 2 = n9) (hz : zLX f9 n9 Z true i (s0 1 3 - 1) c9 C9 L9 A9 B9 T9) (hxz : x = zch f9 n9 (s0 1 3 - 1) ∧ zkl x ≠ 0) (hi : 0 ≤ i ∧ i < 16) (hu : s0 118 2 = c9 + 2 * i) (hk : zKR (s0 119) (s0 120) (s0 121) (s0 122) (s0 123) C9 L9 A9 B9 T9 i c9) (p0 : IC s0) : Met l yX5_readClause (xws yX5_readClause cX5_readClause 3 (some .boolean)) { frames := 24, cells := 0, slots := 0, locals := 551 } (xP [.ref (h0 + 117), .int (xJ x), .int (xJ i)] D g T h0 s0) (xQi D g h0 (fun r τ => xFr (fun k => k = 1 ∨ k = 118 ∨ k = 119 ∨ k = 120 ∨ k = 121 ∨ k = 122 ∨ k = 123) s0 τ ∧ (((IC τ) ∧ (τ 1 1 = s0 1 1) ∧ (τ 1 2 = s0 1 2) ∧ True) ∧ ((r = 1 ∧ s0 1 3 ≤ τ 1 3 ∧ ∃ c2 C2 L2 A2 B2 T2, zLX f9 n9 Z false (i + 1) (τ 1 3) c2 C2 L2 A2 B2 T2 ∧ zKR (τ 119) (τ 120) (τ 121) (τ 122) (τ 123) C2 L2 A2 B2 T2 (i + 1) c2 ∧ τ 118 2 = c2 + 2 * (i + 1)) ∨ (r = 0 ∧ Z.1 ≠ 0 ∧ τ 1 4 = Z.1))))) 0 0 (xA h0) := by
  refine x_met hσ (by decide) (Nat.le_of_ble_eq_true rfl) ?_
  intro p e s m args below meth c hx hb hr hml hown hT hlk hnm hE hW ls hl
  have hl : lv_has ls 3 [(0, .ref (h0 + 117)), (1, .int (xJ x)), (2, .int (xJ i))] := hl
  obtain ⟨Q, eQ⟩ : ∃ Q, Q = MQ below (xQi D g h0 (fun r τ => xFr (fun k => k = 1 ∨ k = 118 ∨ k = 119 ∨ k = 120 ∨ k = 121 ∨ k = 122 ∨ k = 123) s0 τ ∧ (((IC τ) ∧ (τ 1 1 = s0 1 1) ∧ (τ 1 2 = s0 1 2) ∧ True) ∧ ((r = 1 ∧ s0 1 3 ≤ τ 1 3 ∧ ∃ c2 C2 L2 A2 B2 T2, zLX f9 n9 Z false (i + 1) (τ 1 3) c2 C2 L2 A2 B2 T2 ∧ zKR (τ 119) (τ 120) (τ 121) (τ 122) (τ 123) C2 L2 A2 B2 T2 (i + 1) c2 ∧ τ 118 2 = c2 + 2 * (i + 1)) ∨ (r = 0 ∧ Z.1 ≠ 0 ∧ τ 1 4 = Z.1))))) args s 0 0 (xA h0) := ⟨_, rfl⟩
  rw [← eQ]
  generalize hHe : ([] : List Loc) = locs at hW ⊢
  obtain ⟨H, eH⟩ : ∃ H, H = s.heap := ⟨_, rfl⟩
  rw [← eH] at hW ⊢
  have hF : xFr (fun k => k = 1 ∨ k = 118 ∨ k = 119 ∨ k = 120 ∨ k = 121 ∨ k = 122 ∨ k = 123) s0 s0 := xFr.rf
  have k1_1 : s0 1 1 = s0 1 1 := rfl
  have k1_2 : s0 1 2 = s0 1 2 := rfl
  have k1_3 : s0 1 3 = s0 1 3 := rfl
  have k118_2 : s0 118 2 = s0 118 2 := rfl
  have hf2 := hf.2
  have hu2 := hu
  have hb9 := hz.b
  have hzk := zkl_cs x
  have hl9 := zch_lt (f := f9) (n := n9) (p := (s0 1 3 - 1)) (by omega)
  refine x_iload_n hx hb hl 2 rfl dX5_readClause_0 rfl ?_
  refine x_if_lt (tgt := 10) hx hb ri dX5_readClause_1 (by decide) (fun c1 => False.elim (by omega)) (fun c1 => ?_)
  refine x_iload_n hx hb hl 2 rfl dX5_readClause_4 rfl ?_
  refine x_bipush hx hb dX5_readClause_5 (by decide) ?_
  refine x_icmp_lt (tgt := 12) hx hb ri (by decide) dX5_readClause_7 (by decide) (fun c2 => ?_) (fun c2 => False.elim (by omega))
  refine x_aload_n hx hb hl 0 rfl dX5_readClause_12 rfl ?_
  refine x_get (j := 1) (v := .ref (h0 + 118)) hx hb hown hT hE hW cls_X5 (Or.inl (by decide)) (so_117 h0 g _) (by decide) rfl wq294 dX5_readClause_13 ?_
  refine x_getN (j := 3) (v := .ref (h0 + 121)) hx hb hown hT hE hW cls_X4 (Or.inl (by decide)) (so_118 h0 g _) (by decide) rfl wn256 dX5_readClause_16 ?_
  refine x_iload_n hx hb hl 2 rfl dX5_readClause_19 rfl ?_
  refine x_iload_n hx hb hl 1 rfl dX5_readClause_20 rfl ?_
  refine x_iast hx hb hE hW (by decide) (fun σ => sa_121 h0 g σ) (by omega) (by decide) rx dX5_readClause_21 (fun H locs s3 es3 hW => ?_)
  have q4 : IC s3 := by rw [es3]; exact IC_o (by decide) p0
  have q5 : s3 1 1 = s0 1 1 := (show s3 1 1 = s0 1 1 from by rw [es3, xU_k _ _ _ (by omega)]).trans k1_1
  have q6 : s3 1 2 = s0 1 2 := (show s3 1 2 = s0 1 2 from by rw [es3, xU_k _ _ _ (by omega)]).trans k1_2
  have q7 : s3 1 3 = s0 1 3 := (show s3 1 3 = s0 1 3 from by rw [es3, xU_k _ _ _ (by omega)]).trans k1_3
  have q8 : s3 118 2 = s0 118 2 := (show s3 118 2 = s0 118 2 from by rw [es3, xU_k _ _ _ (by omega)]).trans k118_2
  have hF9 := hF.put es3 (by omega)
  have E21 := es3
  refine x_aload_n hx hb hl 0 rfl dX5_readClause_22 rfl ?_
  refine x_get (j := 1) (v := .ref (h0 + 118)) hx hb hown hT hE hW cls_X5 (Or.inl (by decide)) (so_117 h0 g _) (by decide) rfl wq294 dX5_readClause_23 ?_
  refine x_getN (j := 4) (v := .ref (h0 + 122)) hx hb hown hT hE hW cls_X4 (Or.inl (by decide)) (so_118 h0 g _) (by decide) rfl wn258 dX5_readClause_26 ?_
  refine x_iload_n hx hb hl 2 rfl dX5_readClause_29 rfl ?_
  refine x_aload_n hx hb hl 0 rfl dX5_readClause_30 rfl ?_
  refine x_get (j := 1) (v := .ref (h0 + 118)) hx hb hown hT hE hW cls_X5 (Or.inl (by decide)) (so_117 h0 g _) (by decide) rfl wq294 dX5_readClause_31 ?_
  refine x_getN (j := 2) (v := .int (xJ (s3 118 2))) hx hb hown hT hE hW cls_X4 (Or.inl (by decide)) (so_118 h0 g _) (by decide) rfl wn254 dX5_readClause_34 ?_
  refine x_rd hW (fun x10 ex10 rx10 => ?_)
  have bx10 : 0 ≤ x10 ∧ x10 ≤ 300 := by rw [ex10]; exact (IC.l2 q4).1
  have fx10 : x10 = s0 118 2 := ex10.trans q8
  have V34 : x10 = c9 + 2 * i := by rw [ex10, E21, xU_k _ _ _ (by omega)]; omega
  refine x_iast hx hb hE hW (by decide) (fun σ => sa_122 h0 g σ) (by omega) (by decide) rx10 dX5_readClause_37 (fun H locs s11 es11 hW => ?_)
  have q12 : IC s11 := by rw [es11]; exact IC_o (by decide) q4
  have q13 : s11 1 1 = s0 1 1 := (show s11 1 1 = s3 1 1 from by rw [es11, xU_k _ _ _ (by omega)]).trans q5
  have q14 : s11 1 2 = s0 1 2 := (show s11 1 2 = s3 1 2 from by rw [es11, xU_k _ _ _ (by omega)]).trans q6
  have q15 : s11 1 3 = s0 1 3 := (show s11 1 3 = s3 1 3 from by rw [es11, xU_k _ _ _ (by omega)]).trans q7
  have q16 : s11 118 2 = s0 118 2 := (show s11 118 2 = s3 118 2 from by rw [es11, xU_k _ _ _ (by omega)]).trans q8
  have hF17 := hF9.put es11 (by omega)
  have E37 := es11
  have Q37 : s11 119 = s0 119 ∧ s11 120 = s0 120 ∧ s11 121 = xud (s0 121) i x ∧ s11 122 = xud (s0 122) i (c9 + 2 * i) ∧ s11 123 = s0 123 := ⟨by rw [E37, xU_k _ _ _ (by omega), E21, xU_k _ _ _ (by omega)], by rw [E37, xU_k _ _ _ (by omega), E21, xU_k _ _ _ (by omega)], by rw [E37, xU_k _ _ _ (by omega), E21, xU_xud], by rw [E37, xU_xud, E21, xU_k _ _ _ (by omega), ← V34], by rw [E37, xU_k _ _ _ (by omega), E21, xU_k _ _ _ (by omega)]⟩
  refine x_iload_n hx hb hl 1 rfl dX5_readClause_38 rfl ?_
  refine x_bipush hx hb dX5_readClause_39 (by decide) ?_
  have J54 : ∀ (s_54 : xS) (H : Heap) (locs : List Loc) (ls : Array Slot), (xFr (fun k => k = 1 ∨ k = 118 ∨ k = 119 ∨ k = 120 ∨ k = 121 ∨ k = 122 ∨ k = 123) s0 s_54) → (IC s_54) → (s_54 1 1 = s0 1 1) → (s_54 1 2 = s0 1 2) → (∃ c2 C2, zc1 f9 n9 (s0 1 3 - 1) c9 C9 = (0, s_54 1 3, c2, C2) ∧ zRD s_54 (2 * i) c9 c2 C2 (s0 119) (s0 120) ∧ (c9 ≤ c2 ∧ c2 + 1 ≤ s_54 1 3 ∧ s_54 1 3 ≤ n9)) → (s_54 121 = xud (s0 121) i x ∧ s_54 122 = xud (s0 122) i (c9 + 2 * i) ∧ s_54 123 = s0 123) → (s0 1 3 ≤ s_54 1 3) → xW D g h0 s H locs s_54 → lv_has ls 3 [(0, .ref (h0 + 117)), (2, .int (xJ i))] → W p l e { frames := 24, cells := 0, slots := 0, locals := 551 } s m args below meth c H locs 0 0 Q (F0 m 54 ls []) := by
    intro s_54 H locs ls hF_54 q54_0 q54_1 q54_2 v54_0 v54_1 v54_2 hW hl
    refine x_aload_n hx hb hl 0 rfl dX5_readClause_54 rfl ?_
    obtain ⟨c3, C3, e3, r3, b3⟩ := v54_0
    obtain ⟨p3, ep3⟩ : ∃ p : Int, p = s_54 1 3 := ⟨_, rfl⟩
    rw [← ep3] at e3 b3
    have y3 := r3.b
    refine x_get (j := 1) (v := .ref (h0 + 118)) hx hb hown hT hE hW cls_X5 (Or.inl (by decide)) (so_117 h0 g _) (by decide) rfl wq294 dX5_readClause_55 ?_
    refine x_iconst hx hb dX5_readClause_58 ?_
    refine x_iconst hx hb dX5_readClause_59 ?_
    refine x_goi (x_runVN (As := [.int (xJ 0), .int (xJ 0)]) hx hb hml hown hT hE hW hl.1 (Or.inl (by decide)) (so_118 h0 g _) rfl cf_X4_put wq672 wq21 wn670 (c_X4_putK l D g T h0 s_54 hW.2.1 0 (by decide) 0 (by decide) q54_0) ⟨rfl, rfl, ⟨by decide, by decide⟩, ⟨by decide, by decide⟩⟩ rfl rfl (Nat.le_of_ble_eq_true rfl) dX5_readClause_60) hW (fun x18 s19 H locs rx18 hp20 hW => ?_)
    obtain ⟨fs19, hp20⟩ := hp20
    have hF21 := hF_54.call fs19 (fun k h => by omega)
    have q22 : s19 1 1 = s0 1 1 := (congrFun (fs19 _ (by omega)) _).trans q54_1
    have q23 : s19 1 2 = s0 1 2 := (congrFun (fs19 _ (by omega)) _).trans q54_2
    have ghp20 := hp20.2
    have H60 := ghp20 (by omega)
    have F60 := fs19
    have P60 : s19 1 3 = p3 := (congrFun (fs19 1 (by omega)) 3).trans ep3.symm
    refine lv_pop hx hb dX5_readClause_63 rfl ?_
    refine x_aload_n hx hb hl 0 rfl dX5_readClause_64 rfl ?_
    refine x_get (j := 1) (v := .ref (h0 + 118)) hx hb hown hT hE hW cls_X5 (Or.inl (by decide)) (so_117 h0 g _) (by decide) rfl wq294 dX5_readClause_65 ?_
    refine x_getN (j := 5) (v := .ref (h0 + 123)) hx hb hown hT hE hW cls_X4 (Or.inl (by decide)) (so_118 h0 g _) (by decide) rfl wn260 dX5_readClause_68 ?_
    refine x_iload_n hx hb hl 1 rfl dX5_readClause_71 rfl ?_
    refine x_aload_n hx hb hl 0 rfl dX5_readClause_72 rfl ?_
    refine x_get (j := 1) (v := .ref (h0 + 118)) hx hb hown hT hE hW cls_X5 (Or.inl (by decide)) (so_117 h0 g _) (by decide) rfl wq294 dX5_readClause_73 ?_
    refine x_getN (j := 2) (v := .int (xJ (s19 118 2))) hx hb hown hT hE hW cls_X4 (Or.inl (by decide)) (so_118 h0 g _) (by decide) rfl wn254 dX5_readClause_76 ?_
    refine x_rd hW (fun x24 ex24 rx24 => ?_)
    have bx24 : 0 ≤ x24 ∧ x24 ≤ 300 := by rw [ex24]; exact (IC.l2 hp20.1.1).1
    have q25 : s19 118 2 = x24 := ex24.symm
    have V76 : x24 = c3 + 2 * i + 1 := by rw [ex24]; omega
    refine x_iast hx hb hE hW (by decide) (fun σ => sa_123 h0 g σ) (by omega) (by decide) rx24 dX5_readClause_79 (fun H locs s26 es26 hW => ?_)
    have q27 : s26 1 1 = s0 1 1 := (show s26 1 1 = s19 1 1 from by rw [es26, xU_k _ _ _ (by omega)]).trans q22
    have q28 : s26 1 2 = s0 1 2 := (show s26 1 2 = s19 1 2 from by rw [es26, xU_k _ _ _ (by omega)]).trans q23
    have q29 : IC s26 := by rw [es26]; exact IC_o (by decide) hp20.1.1
    have q30 : s26 118 2 = x24 := (show s26 118 2 = s19 118 2 from by rw [es26, xU_k _ _ _ (by omega)]).trans q25
    have hF31 := hF21.put es26 (by omega)
    have E79 := es26
    obtain ⟨O79, eO79⟩ : ∃ K, K = s26 119 := ⟨_, rfl⟩
    obtain ⟨V79, eV79⟩ : ∃ K, K = s26 120 := ⟨_, rfl⟩
    have G79 : s26 2 = f9 ∧ s26 1 2 = n9 ∧ s26 1 3 = p3 := ⟨(hF31 2 (by omega)).trans hf.1, by omega, by rw [E79, xU_k _ _ _ (by omega)]; exact P60⟩
    have Q79 : O79 = xud (s_54 119) (c3 + 2 * i) 0 ∧ V79 = xud (s_54 120) (c3 + 2 * i) 0 ∧ s26 121 = xud (s0 121) i x ∧ s26 122 = xud (s0 122) i (c9 + 2 * i) ∧ s26 123 = xud (s0 123) i (c3 + 2 * i + 1) ∧ s26 118 2 = c3 + (2 * i + 1) := ⟨by rw [eO79, E79, xU_k _ _ _ (by omega), H60.2.2.1, y3.1], by rw [eV79, E79, xU_k _ _ _ (by omega), H60.2.2.2, y3.1], by rw [E79, xU_k _ _ _ (by omega), F60 121 (by omega)]; exact v54_1.1, by rw [E79, xU_k _ _ _ (by omega), F60 122 (by omega)]; exact v54_1.2.1, by rw [E79, xU_xud, F60 123 (by omega), v54_1.2.2, V76], by rw [E79, xU_k _ _ _ (by omega)]; omega⟩
    refine x_aload_n hx hb hl 0 rfl dX5_readClause_80 rfl ?_
    refine x_get (j := 0) (v := .ref (h0 + 1)) hx hb hown hT hE hW cls_X5 (Or.inl (by decide)) (so_117 h0 g _) (by decide) rfl wq293 dX5_readClause_81 ?_
    refine x_bipush hx hb dX5_readClause_84 (by decide) ?_
    refine x_goi (x_runVN (As := [.int (xJ 40)]) hx hb hml hown hT hE hW hl.1 (Or.inl (by decide)) (so_1 h0 g _) rfl cf_X8_passes wq598 wq6 wn674 (c_X8_passesM l D g T h0 s26 hW.2.1 40 (by decide) (by omega) (by omega) q29) ⟨rfl, rfl, ⟨by decide, by decide⟩, ⟨by decide, by decide⟩⟩ rfl rfl (Nat.le_of_ble_eq_true rfl) dX5_readClause_86) hW (fun x32 s33 H locs rx32 hp34 hW => ?_)
    obtain ⟨fs33, hp34⟩ := hp34
    have hF35 := hF31.call fs33 (fun k h => by omega)
    have q36 : s33 118 2 = x24 := (congrFun (fs33 _ (by omega)) _).trans q30
    have ghp34 := hp34.2
    have H86 := ghp34
    rw [G79.1, G79.2.1, G79.2.2] at H86
    have Q86 : s33 119 = O79 ∧ s33 120 = V79 ∧ s33 121 = xud (s0 121) i x ∧ s33 122 = xud (s0 122) i (c9 + 2 * i) ∧ s33 123 = xud (s0 123) i (c3 + 2 * i + 1) ∧ s33 118 2 = c3 + (2 * i + 1) := by rw [fs33 118 (by omega), fs33 119 (by omega), fs33 120 (by omega), fs33 121 (by omega), fs33 122 (by omega), fs33 123 (by omega)]; exact ⟨eO79.symm, eV79.symm, Q79.2.2⟩
    have q86 := Q86.2.2.2.2.2
    refine x_if_eq (tgt := 112) hx hb rx32 dX5_readClause_89 (by decide) (fun c37 => ?_) (fun c37 => ?_)
    · skip
      refine x_iconst hx hb dX5_readClause_112 ?_
      rw [eQ]
      exact x_zret hx hb hr hlk hW (by omega) ⟨hF35, ⟨hp34.1.1, (hp34.1.2.1.trans q27), (hp34.1.2.2.1.trans q28), trivial⟩, (by
    first
      | (have z := hz.e2 (by rw [← hxz.1]; exact hxz.2) hi.2 e3 (by unfold zc2; rw [if_pos (by omega)]; show (-1000 - p3 : Int) ≠ 0; omega); unfold zc2 at z; rw [if_pos (by omega)] at z; have z : Z.1 = -1000 - p3 := z; exact Or.inr ⟨by omega, by omega, by omega⟩)
      | (have e := (H94 ()).elim (fun q => absurd q.1 (by omega)) (fun q => q); have z := hz.e2 (by rw [← hxz.1]; exact hxz.2) hi.2 e3 (by rw [z94]; exact e.2.1); rw [z94] at z; rw [z]; exact Or.inr ⟨by omega, e.2.1, e.2.2⟩)
      | (have e := zCX.bad _ _ _ hz4 (List.cons_ne_nil _ _) h94.1 h94.2 (by omega); have z := hz.e2 (by rw [← hxz.1]; exact hxz.2) hi.2 e3 (by rw [z94]; omega); rw [z94] at z; exact Or.inr ⟨by omega, by omega, by omega⟩))⟩ dX5_readClause_113
    refine x_aload_n hx hb hl 0 rfl dX5_readClause_92 rfl ?_
    refine x_iconst hx hb dX5_readClause_93 ?_
    have l93 := zch_lt (f := f9) (n := n9) (p := p3) (by omega)
    refine x_goi (x_runV (As := [.int (xJ 1)]) hx hb hml hown hT hE hW hl.1 (Or.inl (by decide)) (so_117 h0 g _) rfl cf_X5_readParts wq680 wq22 wq678 (c_X5_readPartsK1 l D g T h0 s33 hW.2.1 1 (by decide) f9 n9 (zC0 f9 n9 (p3 + 1) c3 C3) c3 C3 ([13631488]) (2 * i + 1) c3 O79 V79 (by omega) (by first | exact hf | exact ⟨(hF35 2 (by omega)).trans hf.1, by omega⟩) (by rw [show s33 1 3 = p3 + 1 from by omega]; exact zCX.new (by omega)) (zRD.new (by omega) (by omega) (by omega) Q86.1 Q86.2.1) (by decide) ((by decide : (13631488 : Int) ≤ 13631488)) hp34.1.1) ⟨rfl, rfl, ⟨by decide, by decide⟩, ⟨by decide, by decide⟩⟩ rfl rfl (Nat.le_of_ble_eq_true rfl) dX5_readClause_94) hW (fun x38 s39 H locs rx38 hp40 hW => ?_)
    obtain ⟨fs39, hp40⟩ := hp40
    have hF41 := hF35.call fs39 (fun k h => by omega)
    have ghp40 := hp40.2
    have H94 := fun (_ : Unit) => ghp40
    clear ghp40
    replace hp40 := And.intro hp40.1 trivial
    have Q94 : s39 121 = xud (s0 121) i x ∧ s39 122 = xud (s0 122) i (c9 + 2 * i) ∧ s39 123 = xud (s0 123) i (c3 + 2 * i + 1) := by rw [fs39 121 (by omega), fs39 122 (by omega), fs39 123 (by omega)]; exact ⟨Q86.2.2.1, Q86.2.2.2.1, Q86.2.2.2.2.1⟩
    have G94 : s39 2 = f9 ∧ s39 1 2 = n9 := ⟨(hF41 2 (by omega)).trans hf.1, by omega⟩
    obtain ⟨p94, ep94⟩ : ∃ p : Int, p = s39 1 3 := ⟨_, rfl⟩
    have z94 : zc2 f9 n9 p3 c3 C3 = (zC0 f9 n9 (p3 + 1) c3 C3) := by unfold zc2; rw [if_neg (by omega)]
    refine x_if_eq (tgt := 112) hx hb rx38 dX5_readClause_97 (by decide) (fun c42 => ?_) (fun c42 => ?_)
    · skip
      refine x_iconst hx hb dX5_readClause_112 ?_
      rw [eQ]
      exact x_zret hx hb hr hlk hW (by omega) ⟨hF41, ⟨hp40.1.1, (hp40.1.2.1.trans (hp34.1.2.1.trans q27)), (hp40.1.2.2.1.trans (hp34.1.2.2.1.trans q28)), trivial⟩, (by
    first
      | (have z := hz.e2 (by rw [← hxz.1]; exact hxz.2) hi.2 e3 (by unfold zc2; rw [if_pos (by omega)]; show (-1000 - p3 : Int) ≠ 0; omega); unfold zc2 at z; rw [if_pos (by omega)] at z; have z : Z.1 = -1000 - p3 := z; exact Or.inr ⟨by omega, by omega, by omega⟩)
      | (have e := (H94 ()).elim (fun q => absurd q.1 (by omega)) (fun q => q); have z := hz.e2 (by rw [← hxz.1]; exact hxz.2) hi.2 e3 (by rw [z94]; exact e.2.1); rw [z94] at z; rw [z]; exact Or.inr ⟨by omega, e.2.1, e.2.2⟩)
      | (have e := zCX.bad _ _ _ hz4 (List.cons_ne_nil _ _) h94.1 h94.2 (by omega); have z := hz.e2 (by rw [← hxz.1]; exact hxz.2) hi.2 e3 (by rw [z94]; omega); rw [z94] at z; exact Or.inr ⟨by omega, by omega, by omega⟩))⟩ dX5_readClause_113
    refine x_aload_n hx hb hl 0 rfl dX5_readClause_100 rfl ?_
    obtain ⟨c4, C4, hz4, hr4⟩ := ((H94 ()).resolve_right (fun q => by omega)).2.2.2.2
    have h94 : _ ∧ _ := ⟨((H94 ()).resolve_right (fun q => by omega)).2.2.1, ((H94 ()).resolve_right (fun q => by omega)).2.2.2.1⟩
    have v94 := ((H94 ()).resolve_right (fun q => by omega)).2.1
    have y4 := hr4.b
    have w4 := hz4.b
    refine x_get (j := 0) (v := .ref (h0 + 1)) hx hb hown hT hE hW cls_X5 (Or.inl (by decide)) (so_117 h0 g _) (by decide) rfl wq293 dX5_readClause_101 ?_
    refine x_bipush hx hb dX5_readClause_104 (by decide) ?_
    refine x_goi (x_runVN (As := [.int (xJ 41)]) hx hb hml hown hT hE hW hl.1 (Or.inl (by decide)) (so_1 h0 g _) rfl cf_X8_passes wq598 wq6 wn674 (c_X8_passesM l D g T h0 s39 hW.2.1 41 (by decide) (by omega) (by omega) hp40.1.1) ⟨rfl, rfl, ⟨by decide, by decide⟩, ⟨by decide, by decide⟩⟩ rfl rfl (Nat.le_of_ble_eq_true rfl) dX5_readClause_106) hW (fun x43 s44 H locs rx43 hp45 hW => ?_)
    obtain ⟨fs44, hp45⟩ := hp45
    have hF46 := hF41.call fs44 (fun k h => by omega)
    have ghp45 := hp45.2
    have H106 := ghp45
    rw [G94.1, G94.2] at H106
    have hr5 := hr4.f (congrFun (fs44 118 (by omega)) 2) (fs44 119 (by omega)) (fs44 120 (by omega))
    have Q106 : s44 121 = xud (s0 121) i x ∧ s44 122 = xud (s0 122) i (c9 + 2 * i) ∧ s44 123 = xud (s0 123) i (c3 + 2 * i + 1) := by rw [fs44 121 (by omega), fs44 122 (by omega), fs44 123 (by omega)]; exact Q94
    refine x_if_ne (tgt := 114) hx hb rx43 dX5_readClause_109 (by decide) (fun c47 => ?_) (fun c47 => ?_)
    · skip
      refine x_aload_n hx hb hl 0 rfl dX5_readClause_114 rfl ?_
      refine x_get (j := 1) (v := .ref (h0 + 118)) hx hb hown hT hE hW cls_X5 (Or.inl (by decide)) (so_117 h0 g _) (by decide) rfl wq294 dX5_readClause_115 ?_
      refine x_iconst hx hb dX5_readClause_118 ?_
      refine x_iconst hx hb dX5_readClause_119 ?_
      refine x_goi (x_runVN (As := [.int (xJ 0), .int (xJ 0)]) hx hb hml hown hT hE hW hl.1 (Or.inl (by decide)) (so_118 h0 g _) rfl cf_X4_put wq672 wq21 wn670 (c_X4_putK l D g T h0 s44 hW.2.1 0 (by decide) 0 (by decide) hp45.1.1) ⟨rfl, rfl, ⟨by decide, by decide⟩, ⟨by decide, by decide⟩⟩ rfl rfl (Nat.le_of_ble_eq_true rfl) dX5_readClause_120) hW (fun x48 s49 H locs rx48 hp50 hW => ?_)
      obtain ⟨fs49, hp50⟩ := hp50
      have hF51 := hF46.call fs49 (fun k h => by omega)
      have q52 : s49 1 1 = s0 1 1 := (congrFun (fs49 _ (by omega)) _).trans (hp45.1.2.1.trans (hp40.1.2.1.trans (hp34.1.2.1.trans q27)))
      have q53 : s49 1 2 = s0 1 2 := (congrFun (fs49 _ (by omega)) _).trans (hp45.1.2.2.1.trans (hp40.1.2.2.1.trans (hp34.1.2.2.1.trans q28)))
      have ghp50 := hp50.2
      have H120 := ghp50 (by have y := hr5.b; omega)
      have P120 : s49 1 3 = s44 1 3 := congrFun (fs49 1 (by omega)) 3
      have Q120 : s49 121 = xud (s0 121) i x ∧ s49 122 = xud (s0 122) i (c9 + 2 * i) ∧ s49 123 = xud (s0 123) i (c3 + 2 * i + 1) := by rw [fs49 121 (by omega), fs49 122 (by omega), fs49 123 (by omega)]; exact Q106
      have y5 := hr5.b
      refine lv_pop hx hb dX5_readClause_123 rfl ?_
      refine x_iconst hx hb dX5_readClause_124 ?_
      rw [eQ]
      exact x_zret hx hb hr hlk hW (by omega) ⟨hF51, ⟨hp50.1.1, q52, q53, trivial⟩, by
    have e4 := (hz4.shut (by decide) (by omega) (p2 := p94 + 1) (by omega)).fin
    rw [← z94] at e4
    have K9 := zLK hz (by rw [← hxz.1]; exact hxz.2) hi.2 e3 e4 hk r3.2.1 r3.2.2 Q79.1 Q79.2.1 hr5.2.1 hr5.2.2 (H120.2.2.1.trans (by rw [y5.1])) (H120.2.2.2.trans (by rw [y5.1])) (Q120.1.trans (by rw [hxz.1])) Q120.2.1 Q120.2.2
    exact Or.inl ⟨by omega, by omega, c4, C4, _, _, _, _, by rw [show s49 1 3 = p94 + 1 from by omega]; exact K9.1, K9.2, by omega⟩⟩ dX5_readClause_125
    refine x_iconst hx hb dX5_readClause_112 ?_
    rw [eQ]
    exact x_zret hx hb hr hlk hW (by omega) ⟨hF46, ⟨hp45.1.1, (hp45.1.2.1.trans (hp40.1.2.1.trans (hp34.1.2.1.trans q27))), (hp45.1.2.2.1.trans (hp40.1.2.2.1.trans (hp34.1.2.2.1.trans q28))), trivial⟩, (by
    first
      | (have z := hz.e2 (by rw [← hxz.1]; exact hxz.2) hi.2 e3 (by unfold zc2; rw [if_pos (by omega)]; show (-1000 - p3 : Int) ≠ 0; omega); unfold zc2 at z; rw [if_pos (by omega)] at z; have z : Z.1 = -1000 - p3 := z; exact Or.inr ⟨by omega, by omega, by omega⟩)
      | (have e := (H94 ()).elim (fun q => absurd q.1 (by omega)) (fun q => q); have z := hz.e2 (by rw [← hxz.1]; exact hxz.2) hi.2 e3 (by rw [z94]; exact e.2.1); rw [z94] at z; rw [z]; exact Or.inr ⟨by omega, e.2.1, e.2.2⟩)
      | (have e := zCX.bad _ _ _ hz4 (List.cons_ne_nil _ _) h94.1 h94.2 (by omega); have z := hz.e2 (by rw [← hxz.1]; exact hxz.2) hi.2 e3 (by rw [z94]; omega); rw [z94] at z; exact Or.inr ⟨by omega, by omega, by omega⟩))⟩ dX5_readClause_113
  refine x_icmp_eq (tgt := 54) hx hb rx (by decide) dX5_readClause_41 (by decide) (fun c54 => ?_) (fun c54 => ?_)
  · skip
    exact J54 s11 H locs ls hF17 q12 q13 q14 (by first | exact ⟨c9, C9, by unfold zc1; rw [if_pos (by omega), show s11 1 3 = (s0 1 3 - 1) + 1 from by omega], zRD.new (by omega) (by omega) (by omega) Q37.1 Q37.2.1, by omega⟩ | (have q := (H46 ()).resolve_right (fun q => by omega); obtain ⟨c2, C2, hz2, hr2⟩ := q.2.2.2; have F2 := hz2.fin q.2.2.1; have y2 := hr2.b; have w2 := hz2.b; exact ⟨c2, C2, z46.trans F2, hr2, by omega⟩)) (by first | exact Q37.2.2 | exact ⟨(fs11 121 (by omega)).trans Q37.2.2.1, (fs11 122 (by omega)).trans Q37.2.2.2.1, (fs11 123 (by omega)).trans Q37.2.2.2.2⟩) (by first | omega | (have y := ((H46 ()).resolve_right (fun q => by omega)).2.1; omega)) hW (lv_sub hl [0, 2] rfl)
  refine x_aload_n hx hb hl 0 rfl dX5_readClause_44 rfl ?_
  refine x_iconst hx hb dX5_readClause_45 ?_
  refine x_goi (x_runV (As := [.int (xJ 0)]) hx hb hml hown hT hE hW hl.1 (Or.inl (by decide)) (so_117 h0 g _) rfl cf_X5_readSum wq652 wq16 wq650 (c_X5_readSumK0 l D g T h0 s11 hW.2.1 0 (by decide) f9 n9 0 1 c9 C9 (zE0 f9 n9 0 (s0 1 3) c9 C9) c9 C9 ([] : List Int) (2 * i) c9 (s0 119) (s0 120) (by omega) (by first | exact hf | exact ⟨(hF17 2 (by omega)).trans hf.1, by omega⟩) (by rw [show s11 1 3 = s0 1 3 from q15]; exact zEX.new (by omega)) (zRD.new (by omega) (by omega) (by omega) Q37.1 Q37.2.1) (by decide) (Or.inl (by decide)) q12) ⟨rfl, rfl, ⟨by decide, by decide⟩, ⟨by decide, by decide⟩⟩ rfl rfl (Nat.le_of_ble_eq_true rfl) dX5_readClause_46) hW (fun x55 s56 H locs rx55 hp57 hW => ?_)
  obtain ⟨fs56, hp57⟩ := hp57
  have hF58 := hF17.call fs56 (fun k h => by omega)
  have ghp57 := hp57.2
  have H46 := fun (_ : Unit) => ghp57
  clear ghp57
  replace hp57 := And.intro hp57.1 trivial
  have z46 : zc1 f9 n9 (s0 1 3 - 1) c9 C9 = (zE0 f9 n9 0 (s0 1 3) c9 C9) := by unfold zc1; rw [if_neg (by omega), show (s0 1 3 - 1) + 1 = s0 1 3 from by omega]
  refine x_if_ne (tgt := 54) hx hb rx55 dX5_readClause_49 (by decide) (fun c59 => ?_) (fun c59 => ?_)
  · skip
    exact J54 s56 H locs ls hF58 hp57.1.1 (hp57.1.2.1.trans q13) (hp57.1.2.2.1.trans q14) (by first | exact ⟨c9, C9, by unfold zc1; rw [if_pos (by omega), show s56 1 3 = (s0 1 3 - 1) + 1 from by omega], zRD.new (by omega) (by omega) (by omega) Q37.1 Q37.2.1, by omega⟩ | (have q := (H46 ()).resolve_right (fun q => by omega); obtain ⟨c2, C2, hz2, hr2⟩ := q.2.2.2; have F2 := hz2.fin q.2.2.1; have y2 := hr2.b; have w2 := hz2.b; exact ⟨c2, C2, z46.trans F2, hr2, by omega⟩)) (by first | exact Q37.2.2 | exact ⟨(fs56 121 (by omega)).trans Q37.2.2.1, (fs56 122 (by omega)).trans Q37.2.2.2.1, (fs56 123 (by omega)).trans Q37.2.2.2.2⟩) (by first | omega | (have y := ((H46 ()).resolve_right (fun q => by omega)).2.1; omega)) hW (lv_sub hl [0, 2] rfl)
  refine x_iconst hx hb dX5_readClause_52 ?_
  rw [eQ]
  exact x_zret hx hb hr hlk hW (by omega) ⟨hF58, ⟨hp57.1.1, (hp57.1.2.1.trans q13), (hp57.1.2.2.1.trans q14), trivial⟩, by
    have e := (H46 ()).elim (fun q => absurd q.1 (by omega)) (fun q => q)
    have z := hz.e1 (by rw [← hxz.1]; exact hxz.2) hi.2 (by rw [z46]; exact e.2.1)
    rw [z46] at z
    rw [z]
    exact Or.inr ⟨by omega, e.2.1, e.2.2⟩⟩ dX5_readClause_53
