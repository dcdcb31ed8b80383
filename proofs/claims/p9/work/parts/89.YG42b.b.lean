set_option maxHeartbeats 4000000 in
set_option maxRecDepth 100000 in
theorem c_X4_emptyK (l : Launch) (D : va_G) (g : xG) (T : Nat × Nat × Nat) (h0 : Nat) (s0 : xS) (hσ : xRR s0) (p0 : IC s0) : Met l yX4_empty (xws yX4_empty cX4_empty 1 none) { frames := 0, cells := 0, slots := 0, locals := 0 } (xP [.ref (h0 + 118)] D g T h0 s0) (xQv D g h0 (fun τ => xFr (fun k => k = 118) s0 τ ∧ (((IC τ) ∧ True) ∧ (τ 118 2 = 0 ∧ τ 118 6 = 0)))) 0 0 (xA h0) := by
  refine x_met hσ (by decide) (Nat.le_of_ble_eq_true rfl) ?_
  intro p e s m args below meth c hx hb hr hml hown hT hlk hnm hE hW ls hl
  have hl : lv_has ls 1 [(0, .ref (h0 + 118))] := hl
  obtain ⟨Q, eQ⟩ : ∃ Q, Q = MQ below (xQv D g h0 (fun τ => xFr (fun k => k = 118) s0 τ ∧ (((IC τ) ∧ True) ∧ (τ 118 2 = 0 ∧ τ 118 6 = 0)))) args s 0 0 (xA h0) := ⟨_, rfl⟩
  rw [← eQ]
  generalize hHe : ([] : List Loc) = locs at hW ⊢
  obtain ⟨H, eH⟩ : ∃ H, H = s.heap := ⟨_, rfl⟩
  rw [← eH] at hW ⊢
  have hF : xFr (fun k => k = 118) s0 s0 := xFr.rf
  refine x_aload_n hx hb hl 0 rfl dX4_empty_0 rfl ?_
  refine x_iconst hx hb dX4_empty_1 ?_
  refine x_put (j := 2) hx hb hown hT hE hW cls_X4 (by decide) (fun σ => so_118 h0 g σ) (by decide) (st_X4_2 h0 s0 118 0) (ln_X4_2 h0 _ _) wq253 rfl rfl rfl (by decide) dX4_empty_2 (fun H locs s1 es1 hW => ?_)
  have q2 : IC s1 := by rw [es1]; exact IC_L_118 p0 (by omega)
  have q3 : s1 118 2 = 0 := by rw [es1, xU_s]
  have hF4 := hF.put es1 (by omega)
  refine x_aload_n hx hb hl 0 rfl dX4_empty_5 rfl ?_
  refine x_iconst hx hb dX4_empty_6 ?_
  refine x_put (j := 6) hx hb hown hT hE hW cls_X4 (by decide) (fun σ => so_118 h0 g σ) (by decide) (st_X4_6 h0 s1 118 0) (ln_X4_6 h0 _ _) wq261 rfl rfl rfl (by decide) dX4_empty_7 (fun H locs s5 es5 hW => ?_)
  have q6 : IC s5 := by rw [es5]; exact IC_L_118 q2 (by omega)
  have q7 : s5 118 2 = 0 := (show s5 118 2 = s1 118 2 from by rw [es5, xU_j _ _ (by decide)]).trans q3
  have q8 : s5 118 6 = 0 := by rw [es5, xU_s]
  have hF9 := hF4.put es5 (by omega)
  rw [eQ]
  exact x_vret hx hb hr hlk hW ⟨hF9, ⟨q6, trivial⟩, by omega⟩ dX4_empty_10
set_option maxHeartbeats 4000000 in
set_option maxRecDepth 100000 in
theorem c_X5_readWholeK (l : Launch) (D : va_G) (g : xG) (T : Nat × Nat × Nat) (h0 : Nat) (s0 : xS) (hσ : xRR s0) (f9 : Int → Int) (n9 : Int) (C9 : Int → Int) (L9 : Int → Int) (A9 : Int → Int) (B9 : Int → Int) (T9 : Int → Int) (hf : s0 2 = f9 ∧ s0 1 2 = n9) (hat : s0 1 3 = 0 ∧ 0 ≤ n9 ∧ n9 ≤ 240) (p0 : IC s0) : Met l yX5_readWhole (xws yX5_readWhole cX5_readWhole 3 (some .boolean)) { frames := 25, cells := 0, slots := 0, locals := 573 } (xP [.ref (h0 + 117)] D g T h0 s0) (xQi D g h0 (fun r τ => xFr (fun k => k = 1 ∨ k = 118 ∨ k = 119 ∨ k = 120 ∨ k = 121 ∨ k = 122 ∨ k = 123) s0 τ ∧ (((IC τ) ∧ (τ 1 1 = s0 1 1) ∧ (τ 1 2 = s0 1 2) ∧ True) ∧ ((r = 1 ∧ ∃ c2 C2 L2 A2 B2 T2, (zL0 f9 n9 C9 L9 A9 B9 T9) = (0, τ 118 6, c2, C2, L2, A2, B2, T2) ∧ zKR (τ 119) (τ 120) (τ 121) (τ 122) (τ 123) C2 L2 A2 B2 T2 (τ 118 6) c2 ∧ τ 118 2 = c2 + 2 * τ 118 6) ∨ (r = 0 ∧ (zL0 f9 n9 C9 L9 A9 B9 T9).1 ≠ 0 ∧ τ 1 4 = (zL0 f9 n9 C9 L9 A9 B9 T9).1))))) 0 0 (xA h0) := by
  refine x_met hσ (by decide) (Nat.le_of_ble_eq_true rfl) ?_
  intro p e s m args below meth c hx hb hr hml hown hT hlk hnm hE hW ls hl
  have hl : lv_has ls 3 [(0, .ref (h0 + 117))] := hl
  obtain ⟨Q, eQ⟩ : ∃ Q, Q = MQ below (xQi D g h0 (fun r τ => xFr (fun k => k = 1 ∨ k = 118 ∨ k = 119 ∨ k = 120 ∨ k = 121 ∨ k = 122 ∨ k = 123) s0 τ ∧ (((IC τ) ∧ (τ 1 1 = s0 1 1) ∧ (τ 1 2 = s0 1 2) ∧ True) ∧ ((r = 1 ∧ ∃ c2 C2 L2 A2 B2 T2, (zL0 f9 n9 C9 L9 A9 B9 T9) = (0, τ 118 6, c2, C2, L2, A2, B2, T2) ∧ zKR (τ 119) (τ 120) (τ 121) (τ 122) (τ 123) C2 L2 A2 B2 T2 (τ 118 6) c2 ∧ τ 118 2 = c2 + 2 * τ 118 6) ∨ (r = 0 ∧ (zL0 f9 n9 C9 L9 A9 B9 T9).1 ≠ 0 ∧ τ 1 4 = (zL0 f9 n9 C9 L9 A9 B9 T9).1))))) args s 0 0 (xA h0) := ⟨_, rfl⟩
  rw [← eQ]
  generalize hHe : ([] : List Loc) = locs at hW ⊢
  obtain ⟨H, eH⟩ : ∃ H, H = s.heap := ⟨_, rfl⟩
  rw [← eH] at hW ⊢
  have hF : xFr (fun k => k = 1 ∨ k = 118 ∨ k = 119 ∨ k = 120 ∨ k = 121 ∨ k = 122 ∨ k = 123) s0 s0 := xFr.rf
  have k1_1 : s0 1 1 = s0 1 1 := rfl
  have k1_2 : s0 1 2 = s0 1 2 := rfl
  have k1_3 : s0 1 3 = s0 1 3 := rfl
  have hf2 := hf.2
  refine x_aload_n hx hb hl 0 rfl dX5_readWhole_0 rfl ?_
  refine x_get (j := 1) (v := .ref (h0 + 118)) hx hb hown hT hE hW cls_X5 (Or.inl (by decide)) (so_117 h0 g _) (by decide) rfl wq294 dX5_readWhole_1 ?_
  refine x_gov (x_runVN (As := []) hx hb hml hown hT hE hW hl.1 (Or.inl (by decide)) (so_118 h0 g _) rfl cf_X4_empty wq639 wq14 wn637 (c_X4_emptyK l D g T h0 s0 hW.2.1 p0) ⟨rfl, rfl, ⟨by decide, by decide⟩, ⟨by decide, by decide⟩⟩ rfl rfl (Nat.le_of_ble_eq_true rfl) dX5_readWhole_4) hW (fun s2 H locs hp3 hW => ?_)
  obtain ⟨fs2, hp3⟩ := hp3
  have hF4 := hF.call fs2 (fun k h => by omega)
  have q5 : s2 1 1 = s0 1 1 := (congrFun (fs2 _ (by omega)) _).trans k1_1
  have q6 : s2 1 2 = s0 1 2 := (congrFun (fs2 _ (by omega)) _).trans k1_2
  have q7 : s2 1 3 = s0 1 3 := (congrFun (fs2 _ (by omega)) _).trans k1_3
  have ghp3 := hp3.2
  refine x_iconst hx hb dX5_readWhole_7 ?_
  refine lv_istore_n (lv' := [(1, .int (xJ 0)), (0, .ref (h0 + 117))]) hx hb dX5_readWhole_8 rfl hl (by decide) rfl (fun ls hl => ?_)
  have Lz9 : ∀ (fu : Nat) (i1_9 : Int) (s_9 : xS) (H : Heap) (locs : List Loc) (ls : Array Slot), (xR i1_9) → (xFr (fun k => k = 1 ∨ k = 118 ∨ k = 119 ∨ k = 120 ∨ k = 121 ∨ k = 122 ∨ k = 123) s0 s_9) → (s_9 1 1 = s0 1 1) → (s_9 1 2 = s0 1 2) → (IC s_9) → (0 ≤ i1_9) → (∃ c2 C2 L2 A2 B2 T2, zLX f9 n9 (zL0 f9 n9 C9 L9 A9 B9 T9) true i1_9 (s_9 1 3) c2 C2 L2 A2 B2 T2 ∧ zKR (s_9 119) (s_9 120) (s_9 121) (s_9 122) (s_9 123) C2 L2 A2 B2 T2 i1_9 c2 ∧ s_9 118 2 = c2 + 2 * i1_9) → (17 - i1_9).toNat < fu → xW D g h0 s H locs s_9 → lv_has ls 3 [(0, .ref (h0 + 117)), (1, .int (xJ i1_9))] → W p l e { frames := 25, cells := 0, slots := 0, locals := 573 } s m args below meth c H locs 0 0 Q (F0 m 9 ls []) := by
    intro fu
    induction fu with
    | zero => intro i1_9 s_9 H locs ls ri1_9 hF_9 q9_0 q9_1 q9_3 v9_0 v9_1 hm; exact absurd hm (Nat.not_lt_zero _)
    | succ fu ih9 =>
      intro i1_9 s_9 H locs ls ri1_9 hF_9 q9_0 q9_1 q9_3 v9_0 v9_1 hm hW hl
      obtain ⟨c2, C2, L2, A2, B2, T2, hz2, hk2, hu2⟩ := v9_1
      have w9 := hz2.b
      refine x_iload_n hx hb hl 1 rfl dX5_readWhole_9 rfl ?_
      refine x_bipush hx hb dX5_readWhole_10 (by decide) ?_
      refine x_icmp_gt (tgt := 135) hx hb ri1_9 (by decide) dX5_readWhole_12 (by decide) (fun c8 => False.elim (by omega)) (fun c8 => ?_)
      refine x_aload_n hx hb hl 0 rfl dX5_readWhole_15 rfl ?_
      refine x_get (j := 0) (v := .ref (h0 + 1)) hx hb hown hT hE hW cls_X5 (Or.inl (by decide)) (so_117 h0 g _) (by decide) rfl wq293 dX5_readWhole_16 ?_
      refine x_goi (x_runVN (As := []) hx hb hml hown hT hE hW hl.1 (Or.inl (by decide)) (so_1 h0 g _) rfl cf_X8_sign wq581 wq4 wn641 (c_X8_sign l D g T h0 s_9 hW.2.1 q9_3) ⟨rfl, rfl, ⟨by decide, by decide⟩, ⟨by decide, by decide⟩⟩ rfl rfl (Nat.le_of_ble_eq_true rfl) dX5_readWhole_19) hW (fun x9 s10 H locs rx9 hp11 hW => ?_)
      obtain ⟨es10, hp11⟩ := hp11
      subst es10
      have ghp11 := hp11
      have C19 : x9 = zch f9 n9 (s_9 1 3) := zch_i (by have q8 := congrFun (show s_9 2 = f9 from (hF_9 2 (by omega)).trans hf.1) (s_9 1 3); have q9 := hf.2; omega)
      have z19 := zkl_cs (zch f9 n9 (s_9 1 3))
      refine lv_istore_n (lv' := [(2, .int (xJ x9)), (0, .ref (h0 + 117)), (1, .int (xJ i1_9))]) hx hb dX5_readWhole_22 rfl hl (by decide) rfl (fun ls hl => ?_)
      refine x_iload_n hx hb hl 0 rfl dX5_readWhole_23 rfl ?_
      refine x_goi (x_runS (As := [.int (xJ x9)]) hx hb hml hown hT hE hW hl.1 cf_X5_isKind wq643 wq642 (c_X5_isKindK l D g T h0 s_9 hW.2.1 x9 rx9) ⟨rfl, rfl, ⟨by decide, by decide⟩, ⟨by decide, by decide⟩⟩ rfl rfl (Nat.le_of_ble_eq_true rfl) dX5_readWhole_24) hW (fun x12 s13 H locs rx12 hp14 hW => ?_)
      obtain ⟨es13, hp14⟩ := hp14
      subst es13
      have ghp14 := hp14
      have H24 := ghp14
      refine x_if_ne (tgt := 46) hx hb rx12 dX5_readWhole_27 (by decide) (fun c15 => ?_) (fun c15 => ?_)
      · skip
        refine x_iload_n hx hb hl 2 rfl dX5_readWhole_46 rfl ?_
        refine x_bipush hx hb dX5_readWhole_47 (by decide) ?_
        refine x_icmp_ne (tgt := 68) hx hb ri1_9 (by decide) dX5_readWhole_49 (by decide) (fun c16 => ?_) (fun c16 => ?_)
        · skip
          refine x_aload_n hx hb hl 1 rfl dX5_readWhole_68 rfl ?_
          refine x_get (j := 0) (v := .ref (h0 + 1)) hx hb hown hT hE hW cls_X5 (Or.inl (by decide)) (so_117 h0 g _) (by decide) rfl wq293 dX5_readWhole_69 ?_
          refine lv_dup hx hb dX5_readWhole_72 rfl ?_
          refine x_getN (j := 3) (v := .int (xJ (s_9 1 3))) hx hb hown hT hE hW cls_X8 (Or.inl (by decide)) (so_1 h0 g _) (by decide) rfl wn201 dX5_readWhole_73 ?_
          refine x_rd hW (fun x17 ex17 rx17 => ?_)
          refine x_iconst hx hb dX5_readWhole_76 ?_
          refine x_iadd hx hb dX5_readWhole_77 ?_
          refine x_putN (j := 3) hx hb hown hT hE hW cls_X8 (by decide) (fun σ => so_1 h0 g σ) (by decide) (st_X8_3 h0 s_9 1 (x17 + 1)) (ln_X8_3 h0 _ _) wn201 rfl rfl rfl (by omega) dX5_readWhole_78 (fun H locs s18 es18 hW => ?_)
          have q19 : s18 1 1 = s0 1 1 := (show s18 1 1 = s_9 1 1 from by rw [es18, xU_j _ _ (by decide)]).trans q9_0
          have q20 : s18 1 2 = s0 1 2 := (show s18 1 2 = s_9 1 2 from by rw [es18, xU_j _ _ (by decide)]).trans q9_1
          have q21 : IC s18 := by rw [es18]; exact IC_1 q9_3 (by omega)
          have q22 : s18 1 3 = (x17 + 1) := by rw [es18, xU_s]
          have hF23 := hF_9.put es18 (by omega)
          have i78 : 0 ≤ i1_9 ∧ i1_9 < 16 := by omega
          refine x_aload_n hx hb hl 1 rfl dX5_readWhole_81 rfl ?_
          refine x_iload_n hx hb hl 0 rfl dX5_readWhole_82 rfl ?_
          refine x_iload_n hx hb hl 2 rfl dX5_readWhole_83 rfl ?_
          refine x_goi (x_runV (As := [.int (xJ x9), .int (xJ i1_9)]) hx hb hml hown hT hE hW hl.1 (Or.inl (by decide)) (so_117 h0 g _) rfl cf_X5_readClause wq648 wq15 wq646 (c_X5_readClauseK l D g T h0 s18 hW.2.1 x9 rx9 i1_9 ri1_9 f9 n9 (zL0 f9 n9 C9 L9 A9 B9 T9) c2 C2 L2 A2 B2 T2 (by first | exact hf | exact ⟨(hF23 2 (by omega)).trans hf.1, by omega⟩) (by rw [show s18 1 3 - 1 = s_9 1 3 from by omega]; exact hz2) (⟨by rw [show s18 1 3 - 1 = s_9 1 3 from by omega]; exact C19, by rw [C19]; omega⟩) (i78) (by rw [es18, xU_k _ _ _ (by omega)]; exact hu2) ((by rw [es18, xU_k _ _ _ (by omega), xU_k _ _ _ (by omega), xU_k _ _ _ (by omega), xU_k _ _ _ (by omega), xU_k _ _ _ (by omega)]; exact hk2)) q21) ⟨rfl, rfl, ⟨by decide, by decide⟩, ⟨by decide, by decide⟩⟩ rfl rfl (Nat.le_of_ble_eq_true rfl) dX5_readWhole_84) hW (fun x24 s25 H locs rx24 hp26 hW => ?_)
          obtain ⟨fs25, hp26⟩ := hp26
          have hF27 := hF23.call fs25 (fun k h => by omega)
          have ghp26 := hp26.2
          have g84 := ghp26
          obtain ⟨p84, ep84⟩ : ∃ p : Int, p = s25 1 3 := ⟨_, rfl⟩
          rw [← ep84] at g84
          have H84 := fun (_ : Unit) => g84
          clear g84 ghp26
          replace hp26 := And.intro hp26.1 trivial
          have G84 : s25 2 = f9 ∧ s25 1 2 = n9 := ⟨(hF27 2 (by omega)).trans hf.1, by omega⟩
          have Y84 : p84 < n9 → 0 ≤ p84 → p84 < 260 → 0 ≤ zch f9 n9 p84 := fun h h9 h8 => by
            have b := (IC.by_ hp26.1.1) p84 h9 h8
            rw [G84.1] at b
            rw [← zch_i (Or.inl ⟨h, rfl⟩)]
            exact b.1
          refine x_if_ne (tgt := 92) hx hb rx24 dX5_readWhole_87 (by decide) (fun c28 => ?_) (fun c28 => ?_)
          · skip
            refine x_aload_n hx hb hl 1 rfl dX5_readWhole_92 rfl ?_
            refine x_get (j := 1) (v := .ref (h0 + 118)) hx hb hown hT hE hW cls_X5 (Or.inl (by decide)) (so_117 h0 g _) (by decide) rfl wq294 dX5_readWhole_93 ?_
            refine x_iload_n hx hb hl 2 rfl dX5_readWhole_96 rfl ?_
            refine x_iconst hx hb dX5_readWhole_97 ?_
            refine x_iadd hx hb dX5_readWhole_98 ?_
            refine x_putN (j := 6) hx hb hown hT hE hW cls_X4 (by decide) (fun σ => so_118 h0 g σ) (by decide) (st_X4_6 h0 s25 118 (i1_9 + 1)) (ln_X4_6 h0 _ _) wn262 rfl rfl rfl (by omega) dX5_readWhole_99 (fun H locs s29 es29 hW => ?_)
            have q30 : IC s29 := by rw [es29]; exact IC_L_118 hp26.1.1 (by omega)
            have q31 : s29 1 1 = s0 1 1 := (show s29 1 1 = s25 1 1 from by rw [es29, xU_k _ _ _ (by omega)]).trans (hp26.1.2.1.trans q19)
            have q32 : s29 1 2 = s0 1 2 := (show s29 1 2 = s25 1 2 from by rw [es29, xU_k _ _ _ (by omega)]).trans (hp26.1.2.2.1.trans q20)
            have q33 : s29 118 6 = (i1_9 + 1) := by rw [es29, xU_s]
            have hF34 := hF27.put es29 (by omega)
            obtain ⟨c3, C3, L3, A3, B3, T3, hz3, hk3, hu3⟩ := ((H84 ()).resolve_right (fun q => by omega)).2.2
            have w3 := hz3.b
            have hk4 : zKR (s29 119) (s29 120) (s29 121) (s29 122) (s29 123) C3 L3 A3 B3 T3 (i1_9 + 1) c3 := (by rw [es29, xU_k _ _ _ (by omega), xU_k _ _ _ (by omega), xU_k _ _ _ (by omega), xU_k _ _ _ (by omega), xU_k _ _ _ (by omega)]; exact hk3)
            have u99 : s29 118 2 = c3 + 2 * (i1_9 + 1) := by rw [es29, xU_j _ _ (by decide)]; exact hu3
            have p99 : s29 1 3 = p84 := by rw [es29, xU_k _ _ _ (by omega)]; exact ep84.symm
            refine x_aload_n hx hb hl 1 rfl dX5_readWhole_102 rfl ?_
            refine x_get (j := 0) (v := .ref (h0 + 1)) hx hb hown hT hE hW cls_X5 (Or.inl (by decide)) (so_117 h0 g _) (by decide) rfl wq293 dX5_readWhole_103 ?_
            refine x_goi (x_runVN (As := []) hx hb hml hown hT hE hW hl.1 (Or.inl (by decide)) (so_1 h0 g _) rfl cf_X8_sign wq581 wq4 wn641 (c_X8_sign l D g T h0 s29 hW.2.1 q30) ⟨rfl, rfl, ⟨by decide, by decide⟩, ⟨by decide, by decide⟩⟩ rfl rfl (Nat.le_of_ble_eq_true rfl) dX5_readWhole_106) hW (fun x35 s36 H locs rx35 hp37 hW => ?_)
            obtain ⟨es36, hp37⟩ := hp37
            subst es36
            have ghp37 := hp37
            have C106 : x35 = zch f9 n9 (s29 1 3) := zch_i (by have q8 := congrFun (show s29 2 = f9 from (hF34 2 (by omega)).trans hf.1) (s29 1 3); have q9 := hf.2; omega)
            rw [p99] at C106
            have G106 : s29 2 = f9 ∧ s29 1 2 = n9 := ⟨(hF34 2 (by omega)).trans hf.1, by omega⟩
            refine x_iconst hx hb dX5_readWhole_109 ?_
            refine x_icmp_ne (tgt := 115) hx hb rx35 (by decide) dX5_readWhole_110 (by decide) (fun c38 => ?_) (fun c38 => ?_)
            · skip
              refine x_aload_n hx hb hl 1 rfl dX5_readWhole_115 rfl ?_
              refine x_get (j := 0) (v := .ref (h0 + 1)) hx hb hown hT hE hW cls_X5 (Or.inl (by decide)) (so_117 h0 g _) (by decide) rfl wq293 dX5_readWhole_116 ?_
              refine x_bipush hx hb dX5_readWhole_119 (by decide) ?_
              refine x_goi (x_runVN (As := [.int (xJ 59)]) hx hb hml hown hT hE hW hl.1 (Or.inl (by decide)) (so_1 h0 g _) rfl cf_X8_passes wq598 wq6 wn674 (c_X8_passesM l D g T h0 s29 hW.2.1 59 (by decide) (by omega) (by omega) q30) ⟨rfl, rfl, ⟨by decide, by decide⟩, ⟨by decide, by decide⟩⟩ rfl rfl (Nat.le_of_ble_eq_true rfl) dX5_readWhole_121) hW (fun x39 s40 H locs rx39 hp41 hW => ?_)
              obtain ⟨fs40, hp41⟩ := hp41
              have hF42 := hF34.call fs40 (fun k h => by omega)
              have q43 : s40 118 6 = (i1_9 + 1) := (congrFun (fs40 _ (by omega)) _).trans q33
              have ghp41 := hp41.2
              have H121 := ghp41
              rw [G106.1, G106.2, p99] at H121
              refine x_if_ne (tgt := 129) hx hb rx39 dX5_readWhole_124 (by decide) (fun c44 => ?_) (fun c44 => ?_)
              · skip
                refine x_iinc (lv' := [(1, .int (xJ (i1_9 + 1))), (2, .int (xJ x9)), (0, .ref (h0 + 117))]) hx hb hl 2 rfl dX5_readWhole_129 (by decide) rfl (fun ls hl => ?_)
                refine lv_goto (tgt := 9) hx hb dX5_readWhole_132 (by decide) ?_
                exact ih9 (i1_9 + 1) s40 H locs ls (by omega) hF42 (hp41.1.2.1.trans q31) (hp41.1.2.2.1.trans q32) hp41.1.1 (by omega) (⟨c3, C3, L3, A3, B3, T3, hz3.semi (by omega) (by omega), (by rw [fs40 119 (by omega), fs40 120 (by omega), fs40 121 (by omega), fs40 122 (by omega), fs40 123 (by omega)]; exact hk4), (congrFun (fs40 118 (by omega)) 2).trans u99⟩) (by omega) hW (lv_sub hl [2, 0] rfl)
              refine x_iconst hx hb dX5_readWhole_127 ?_
              rw [eQ]
              exact x_zret hx hb hr hlk hW (by omega) ⟨hF42, ⟨hp41.1.1, (hp41.1.2.1.trans q31), (hp41.1.2.2.1.trans q32), trivial⟩, by
    have z := hz3.bad (by have y := hz3.b; omega) (by omega)
    exact Or.inr ⟨by omega, by omega, by omega⟩⟩ dX5_readWhole_128
            refine x_iconst hx hb dX5_readWhole_113 ?_
            rw [eQ]
            exact x_zret hx hb hr hlk hW (by omega) ⟨hF34, ⟨q30, q31, q32, trivial⟩, Or.inl ⟨by omega, c3, C3, L3, A3, B3, T3, by rw [show s29 118 6 = i1_9 + 1 from by omega]; exact hz3.fin (by have y := Y84; omega), by rw [show s29 118 6 = i1_9 + 1 from by omega]; exact hk4, by omega⟩⟩ dX5_readWhole_114
          refine x_iconst hx hb dX5_readWhole_90 ?_
          rw [eQ]
          exact x_zret hx hb hr hlk hW (by omega) ⟨hF27, ⟨hp26.1.1, (hp26.1.2.1.trans q19), (hp26.1.2.2.1.trans q20), trivial⟩, (H84 ()).elim (fun q => absurd q.1 (by omega)) (fun q => Or.inr ⟨by omega, q.2⟩)⟩ dX5_readWhole_91
        refine x_aload_n hx hb hl 1 rfl dX5_readWhole_52 rfl ?_
        refine x_get (j := 0) (v := .ref (h0 + 1)) hx hb hown hT hE hW cls_X5 (Or.inl (by decide)) (so_117 h0 g _) (by decide) rfl wq293 dX5_readWhole_53 ?_
        refine x_iconst hx hb dX5_readWhole_56 ?_
        refine x_aload_n hx hb hl 1 rfl dX5_readWhole_57 rfl ?_
        refine x_get (j := 0) (v := .ref (h0 + 1)) hx hb hown hT hE hW cls_X5 (Or.inl (by decide)) (so_117 h0 g _) (by decide) rfl wq293 dX5_readWhole_58 ?_
        refine x_getN (j := 3) (v := .int (xJ (s_9 1 3))) hx hb hown hT hE hW cls_X8 (Or.inl (by decide)) (so_1 h0 g _) (by decide) rfl wn201 dX5_readWhole_61 ?_
        refine x_rd hW (fun x45 ex45 rx45 => ?_)
        refine x_goi (x_runVN (As := [.int (xJ 4), .int (xJ x45)]) hx hb hml hown hT hE hW hl.1 (Or.inl (by decide)) (so_1 h0 g _) rfl cf_X8_fails wq588 wq5 wn645 (c_X8_failsM l D g T h0 s_9 hW.2.1 4 (by decide) x45 rx45 (by omega) q9_3) ⟨rfl, rfl, ⟨by decide, by decide⟩, ⟨by decide, by decide⟩⟩ rfl rfl (Nat.le_of_ble_eq_true rfl) dX5_readWhole_64) hW (fun x46 s47 H locs rx46 hp48 hW => ?_)
        obtain ⟨fs47, hp48⟩ := hp48
        have hF49 := hF_9.call fs47 (fun k h => by omega)
        have ghp48 := hp48.2
        rw [eQ]
        exact x_zret hx hb hr hlk hW (by omega) ⟨hF49, ⟨hp48.1.1, (hp48.1.2.1.trans q9_0), (hp48.1.2.2.1.trans q9_1), trivial⟩, by
    have z := hz2.four (by omega) (by omega)
    exact Or.inr ⟨by omega, by omega, by omega⟩⟩ dX5_readWhole_67
      refine x_aload_n hx hb hl 1 rfl dX5_readWhole_30 rfl ?_
      refine x_get (j := 0) (v := .ref (h0 + 1)) hx hb hown hT hE hW cls_X5 (Or.inl (by decide)) (so_117 h0 g _) (by decide) rfl wq293 dX5_readWhole_31 ?_
      refine x_iconst hx hb dX5_readWhole_34 ?_
      refine x_aload_n hx hb hl 1 rfl dX5_readWhole_35 rfl ?_
      refine x_get (j := 0) (v := .ref (h0 + 1)) hx hb hown hT hE hW cls_X5 (Or.inl (by decide)) (so_117 h0 g _) (by decide) rfl wq293 dX5_readWhole_36 ?_
      refine x_getN (j := 3) (v := .int (xJ (s_9 1 3))) hx hb hown hT hE hW cls_X8 (Or.inl (by decide)) (so_1 h0 g _) (by decide) rfl wn201 dX5_readWhole_39 ?_
      refine x_rd hW (fun x50 ex50 rx50 => ?_)
      refine x_goi (x_runVN (As := [.int (xJ 1), .int (xJ x50)]) hx hb hml hown hT hE hW hl.1 (Or.inl (by decide)) (so_1 h0 g _) rfl cf_X8_fails wq588 wq5 wn645 (c_X8_failsM l D g T h0 s_9 hW.2.1 1 (by decide) x50 rx50 (by omega) q9_3) ⟨rfl, rfl, ⟨by decide, by decide⟩, ⟨by decide, by decide⟩⟩ rfl rfl (Nat.le_of_ble_eq_true rfl) dX5_readWhole_42) hW (fun x51 s52 H locs rx51 hp53 hW => ?_)
      obtain ⟨fs52, hp53⟩ := hp53
      have hF54 := hF_9.call fs52 (fun k h => by omega)
      have ghp53 := hp53.2
      rw [eQ]
      exact x_zret hx hb hr hlk hW (by omega) ⟨hF54, ⟨hp53.1.1, (hp53.1.2.1.trans q9_0), (hp53.1.2.2.1.trans q9_1), trivial⟩, by
    have z := hz2.one (by omega)
    exact Or.inr ⟨by omega, by omega, by omega⟩⟩ dX5_readWhole_45
  exact Lz9 ((17 - 0 : Int).toNat + 1) 0 s2 H locs ls (by decide) hF4 q5 q6 hp3.1.1 (by omega) (⟨0, C9, L9, A9, B9, T9, by rw [show s2 1 3 = 0 from by omega]; exact zLX.new hat.2, zKR_0 rfl, by omega⟩) (Nat.lt_succ_self _) hW (lv_sub hl [1, 0] rfl)
set_option maxHeartbeats 4000000 in
set_option maxRecDepth 100000 in
theorem c_X4_copyFromK (l : Launch) (D : va_G) (g : xG) (T : Nat × Nat × Nat) (h0 : Nat) (s0 : xS) (hσ : xRR s0) (p0 : IC s0) : Met l yX4_copyFrom (xws yX4_copyFrom cX4_copyFrom 2 none) { frames := 1, cells := 0, slots := 0, locals := 18 } (xP [.ref (h0 + 109), .ref (h0 + 118)] D g T h0 s0) (xQv D g h0 (fun τ => xFr (fun k => k = 109 ∨ k = 110 ∨ k = 111 ∨ k = 112 ∨ k = 113 ∨ k = 114) s0 τ ∧ (((IC τ) ∧ True) ∧ ((∀ j, 0 ≤ j → j < 300 → τ 110 j = s0 119 j ∧ τ 111 j = s0 120 j) ∧ (∀ j, 0 ≤ j → j < 16 → τ 112 j = s0 121 j ∧ τ 113 j = s0 122 j ∧ τ 114 j = s0 123 j) ∧ τ 109 2 = s0 118 2 ∧ τ 109 6 = s0 118 6)))) 0 0 (xA h0) := by
  refine x_met hσ (by decide) (Nat.le_of_ble_eq_true rfl) ?_
  intro p e s m args below meth c hx hb hr hml hown hT hlk hnm hE hW ls hl
  have hl : lv_has ls 2 [(0, .ref (h0 + 109)), (1, .ref (h0 + 118))] := hl
  obtain ⟨Q, eQ⟩ : ∃ Q, Q = MQ below (xQv D g h0 (fun τ => xFr (fun k => k = 109 ∨ k = 110 ∨ k = 111 ∨ k = 112 ∨ k = 113 ∨ k = 114) s0 τ ∧ (((IC τ) ∧ True) ∧ ((∀ j, 0 ≤ j → j < 300 → τ 110 j = s0 119 j ∧ τ 111 j = s0 120 j) ∧ (∀ j, 0 ≤ j → j < 16 → τ 112 j = s0 121 j ∧ τ 113 j = s0 122 j ∧ τ 114 j = s0 123 j) ∧ τ 109 2 = s0 118 2 ∧ τ 109 6 = s0 118 6)))) args s 0 0 (xA h0) := ⟨_, rfl⟩
  rw [← eQ]
  generalize hHe : ([] : List Loc) = locs at hW ⊢
  obtain ⟨H, eH⟩ : ∃ H, H = s.heap := ⟨_, rfl⟩
  rw [← eH] at hW ⊢
  have hF : xFr (fun k => k = 109 ∨ k = 110 ∨ k = 111 ∨ k = 112 ∨ k = 113 ∨ k = 114) s0 s0 := xFr.rf
  refine x_aload_n hx hb hl 1 rfl dX4_copyFrom_0 rfl ?_
  refine x_get (j := 0) (v := .ref (h0 + 119)) hx hb hown hT hE hW cls_X4 (Or.inl (by decide)) (so_118 h0 g _) (by decide) rfl wq251 dX4_copyFrom_1 ?_
  refine x_iconst hx hb dX4_copyFrom_4 ?_
  refine x_aload_n hx hb hl 0 rfl dX4_copyFrom_5 rfl ?_
  refine x_get (j := 0) (v := .ref (h0 + 110)) hx hb hown hT hE hW cls_X4 (Or.inl (by decide)) (so_109 h0 g _) (by decide) rfl wq251 dX4_copyFrom_6 ?_
  refine x_iconst hx hb dX4_copyFrom_9 ?_
  refine x_sipush hx hb dX4_copyFrom_10 (by decide) ?_
  refine x_copyi (ns := 300) (nd := 300) hx hb hml hl.1 hown hT hE hW wq698 wq604 wq603 wq181 (Or.inl (by decide)) (sa_119 h0 g _) (by decide) (fun σ => sa_110 h0 g σ) (by omega) ⟨by decide, Nat.le_of_ble_eq_true rfl⟩ dX4_copyFrom_13 (fun H locs s1 es1 hW => ?_)
  have q2 : IC s1 := IC_f (fun k hk => by rw [es1]; exact xC_k _ _ _ (fun q => hk (q ▸ (by decide)))) p0
  have hF3 := hF.cpy es1 (by omega)
  have E13 := es1
  refine x_aload_n hx hb hl 1 rfl dX4_copyFrom_16 rfl ?_
  refine x_get (j := 1) (v := .ref (h0 + 120)) hx hb hown hT hE hW cls_X4 (Or.inl (by decide)) (so_118 h0 g _) (by decide) rfl wq252 dX4_copyFrom_17 ?_
  refine x_iconst hx hb dX4_copyFrom_20 ?_
  refine x_aload_n hx hb hl 0 rfl dX4_copyFrom_21 rfl ?_
  refine x_get (j := 1) (v := .ref (h0 + 111)) hx hb hown hT hE hW cls_X4 (Or.inl (by decide)) (so_109 h0 g _) (by decide) rfl wq252 dX4_copyFrom_22 ?_
  refine x_iconst hx hb dX4_copyFrom_25 ?_
  refine x_sipush hx hb dX4_copyFrom_26 (by decide) ?_
  refine x_copyi (ns := 300) (nd := 300) hx hb hml hl.1 hown hT hE hW wq698 wq604 wq603 wq181 (Or.inl (by decide)) (sa_120 h0 g _) (by decide) (fun σ => sa_111 h0 g σ) (by omega) ⟨by decide, Nat.le_of_ble_eq_true rfl⟩ dX4_copyFrom_29 (fun H locs s4 es4 hW => ?_)
  have q5 : IC s4 := IC_f (fun k hk => by rw [es4]; exact xC_k _ _ _ (fun q => hk (q ▸ (by decide)))) q2
  have hF6 := hF3.cpy es4 (by omega)
  have E29 := es4
  refine x_aload_n hx hb hl 0 rfl dX4_copyFrom_32 rfl ?_
  refine x_aload_n hx hb hl 1 rfl dX4_copyFrom_33 rfl ?_
  refine x_get (j := 2) (v := .int (xJ (s4 118 2))) hx hb hown hT hE hW cls_X4 (Or.inl (by decide)) (so_118 h0 g _) (by decide) rfl wq253 dX4_copyFrom_34 ?_
  refine x_rd hW (fun x7 ex7 rx7 => ?_)
  have bx7 : 0 ≤ x7 ∧ x7 ≤ 300 := by rw [ex7]; exact (IC.l2 q5).1
  have q8 : s4 118 2 = x7 := ex7.symm
  have Y37 : s4 118 2 = s0 118 2 := by rw [E29, xC_k _ _ _ (by omega), E13, xC_k _ _ _ (by omega)]
  have V37 : x7 = s0 118 2 := by omega
  refine x_put (j := 2) hx hb hown hT hE hW cls_X4 (by decide) (fun σ => so_109 h0 g σ) (by decide) (st_X4_2 h0 s4 109 x7) (ln_X4_2 h0 _ _) wq253 rfl rfl rfl rx7 dX4_copyFrom_37 (fun H locs s9 es9 hW => ?_)
  have q10 : IC s9 := by rw [es9]; exact IC_L_109 q5 (by omega)
  have q11 : s9 118 2 = x7 := (show s9 118 2 = s4 118 2 from by rw [es9, xU_k _ _ _ (by omega)]).trans q8
  have q12 : s9 109 2 = x7 := by rw [es9, xU_s]
  have hF13 := hF6.put es9 (by omega)
  have E37 := es9
  refine x_aload_n hx hb hl 1 rfl dX4_copyFrom_40 rfl ?_
  refine x_get (j := 3) (v := .ref (h0 + 121)) hx hb hown hT hE hW cls_X4 (Or.inl (by decide)) (so_118 h0 g _) (by decide) rfl wq255 dX4_copyFrom_41 ?_
  refine x_iconst hx hb dX4_copyFrom_44 ?_
  refine x_aload_n hx hb hl 0 rfl dX4_copyFrom_45 rfl ?_
  refine x_get (j := 3) (v := .ref (h0 + 112)) hx hb hown hT hE hW cls_X4 (Or.inl (by decide)) (so_109 h0 g _) (by decide) rfl wq255 dX4_copyFrom_46 ?_
  refine x_iconst hx hb dX4_copyFrom_49 ?_
  refine x_bipush hx hb dX4_copyFrom_50 (by decide) ?_
  refine x_copyi (ns := 16) (nd := 16) hx hb hml hl.1 hown hT hE hW wq698 wq604 wq603 wq181 (Or.inl (by decide)) (sa_121 h0 g _) (by decide) (fun σ => sa_112 h0 g σ) (by omega) ⟨by decide, Nat.le_of_ble_eq_true rfl⟩ dX4_copyFrom_52 (fun H locs s14 es14 hW => ?_)
  have q15 : IC s14 := IC_f (fun k hk => by rw [es14]; exact xC_k _ _ _ (fun q => hk (q ▸ (by decide)))) q10
  have q16 : s14 118 2 = x7 := (show s14 118 2 = s9 118 2 from by rw [es14, xC_k _ _ _ (by omega)]).trans q11
  have q17 : s14 109 2 = x7 := (show s14 109 2 = s9 109 2 from by rw [es14, xC_k _ _ _ (by omega)]).trans q12
  have hF18 := hF13.cpy es14 (by omega)
  have E52 := es14
  refine x_aload_n hx hb hl 1 rfl dX4_copyFrom_55 rfl ?_
  refine x_get (j := 4) (v := .ref (h0 + 122)) hx hb hown hT hE hW cls_X4 (Or.inl (by decide)) (so_118 h0 g _) (by decide) rfl wq257 dX4_copyFrom_56 ?_
  refine x_iconst hx hb dX4_copyFrom_59 ?_
  refine x_aload_n hx hb hl 0 rfl dX4_copyFrom_60 rfl ?_
  refine x_get (j := 4) (v := .ref (h0 + 113)) hx hb hown hT hE hW cls_X4 (Or.inl (by decide)) (so_109 h0 g _) (by decide) rfl wq257 dX4_copyFrom_61 ?_
  refine x_iconst hx hb dX4_copyFrom_64 ?_
  refine x_bipush hx hb dX4_copyFrom_65 (by decide) ?_
  refine x_copyi (ns := 16) (nd := 16) hx hb hml hl.1 hown hT hE hW wq698 wq604 wq603 wq181 (Or.inl (by decide)) (sa_122 h0 g _) (by decide) (fun σ => sa_113 h0 g σ) (by omega) ⟨by decide, Nat.le_of_ble_eq_true rfl⟩ dX4_copyFrom_67 (fun H locs s19 es19 hW => ?_)
  have q20 : IC s19 := IC_f (fun k hk => by rw [es19]; exact xC_k _ _ _ (fun q => hk (q ▸ (by decide)))) q15
  have q21 : s19 118 2 = x7 := (show s19 118 2 = s14 118 2 from by rw [es19, xC_k _ _ _ (by omega)]).trans q16
  have q22 : s19 109 2 = x7 := (show s19 109 2 = s14 109 2 from by rw [es19, xC_k _ _ _ (by omega)]).trans q17
  have hF23 := hF18.cpy es19 (by omega)
  have E67 := es19
  refine x_aload_n hx hb hl 1 rfl dX4_copyFrom_70 rfl ?_
  refine x_get (j := 5) (v := .ref (h0 + 123)) hx hb hown hT hE hW cls_X4 (Or.inl (by decide)) (so_118 h0 g _) (by decide) rfl wq259 dX4_copyFrom_71 ?_
  refine x_iconst hx hb dX4_copyFrom_74 ?_
  refine x_aload_n hx hb hl 0 rfl dX4_copyFrom_75 rfl ?_
  refine x_get (j := 5) (v := .ref (h0 + 114)) hx hb hown hT hE hW cls_X4 (Or.inl (by decide)) (so_109 h0 g _) (by decide) rfl wq259 dX4_copyFrom_76 ?_
  refine x_iconst hx hb dX4_copyFrom_79 ?_
  refine x_bipush hx hb dX4_copyFrom_80 (by decide) ?_
  refine x_copyi (ns := 16) (nd := 16) hx hb hml hl.1 hown hT hE hW wq698 wq604 wq603 wq181 (Or.inl (by decide)) (sa_123 h0 g _) (by decide) (fun σ => sa_114 h0 g σ) (by omega) ⟨by decide, Nat.le_of_ble_eq_true rfl⟩ dX4_copyFrom_82 (fun H locs s24 es24 hW => ?_)
  have q25 : IC s24 := IC_f (fun k hk => by rw [es24]; exact xC_k _ _ _ (fun q => hk (q ▸ (by decide)))) q20
  have q26 : s24 118 2 = x7 := (show s24 118 2 = s19 118 2 from by rw [es24, xC_k _ _ _ (by omega)]).trans q21
  have q27 : s24 109 2 = x7 := (show s24 109 2 = s19 109 2 from by rw [es24, xC_k _ _ _ (by omega)]).trans q22
  have hF28 := hF23.cpy es24 (by omega)
  have E82 := es24
  refine x_aload_n hx hb hl 0 rfl dX4_copyFrom_85 rfl ?_
  refine x_aload_n hx hb hl 1 rfl dX4_copyFrom_86 rfl ?_
  refine x_get (j := 6) (v := .int (xJ (s24 118 6))) hx hb hown hT hE hW cls_X4 (Or.inl (by decide)) (so_118 h0 g _) (by decide) rfl wq261 dX4_copyFrom_87 ?_
  refine x_rd hW (fun x29 ex29 rx29 => ?_)
  have bx29 : 0 ≤ x29 ∧ x29 ≤ 16 := by rw [ex29]; exact (IC.l2 q25).2
  have q30 : s24 118 6 = x29 := ex29.symm
  have Y90 : s24 118 6 = s0 118 6 := by rw [E82, xC_k _ _ _ (by omega), E67, xC_k _ _ _ (by omega), E52, xC_k _ _ _ (by omega), E37, xU_k _ _ _ (by omega), E29, xC_k _ _ _ (by omega), E13, xC_k _ _ _ (by omega)]
  have V90 : x29 = s0 118 6 := by omega
  refine x_put (j := 6) hx hb hown hT hE hW cls_X4 (by decide) (fun σ => so_109 h0 g σ) (by decide) (st_X4_6 h0 s24 109 x29) (ln_X4_6 h0 _ _) wq261 rfl rfl rfl rx29 dX4_copyFrom_90 (fun H locs s31 es31 hW => ?_)
  have q32 : IC s31 := by rw [es31]; exact IC_L_109 q25 (by omega)
  have q33 : s31 118 2 = x7 := (show s31 118 2 = s24 118 2 from by rw [es31, xU_k _ _ _ (by omega)]).trans q26
  have q34 : s31 109 2 = x7 := (show s31 109 2 = s24 109 2 from by rw [es31, xU_j _ _ (by decide)]).trans q27
  have q35 : s31 118 6 = x29 := (show s31 118 6 = s24 118 6 from by rw [es31, xU_k _ _ _ (by omega)]).trans q30
  have q36 : s31 109 6 = x29 := by rw [es31, xU_s]
  have hF37 := hF28.put es31 (by omega)
  have E90 := es31
  rw [eQ]
  exact x_vret hx hb hr hlk hW ⟨hF37, ⟨q32, trivial⟩, ⟨fun j j1 j2 => ⟨by rw [E90, xU_k _ _ _ (by omega), E82, xC_k _ _ _ (by omega), E67, xC_k _ _ _ (by omega), E52, xC_k _ _ _ (by omega), E37, xU_k _ _ _ (by omega), E29, xC_k _ _ _ (by omega), E13, xC_j, if_pos ⟨j1, j2⟩], by rw [E90, xU_k _ _ _ (by omega), E82, xC_k _ _ _ (by omega), E67, xC_k _ _ _ (by omega), E52, xC_k _ _ _ (by omega), E37, xU_k _ _ _ (by omega), E29, xC_j, if_pos ⟨j1, j2⟩, E13, xC_k _ _ _ (by omega)]⟩, fun j j1 j2 => ⟨by rw [E90, xU_k _ _ _ (by omega), E82, xC_k _ _ _ (by omega), E67, xC_k _ _ _ (by omega), E52, xC_j, if_pos ⟨j1, j2⟩, E37, xU_k _ _ _ (by omega), E29, xC_k _ _ _ (by omega), E13, xC_k _ _ _ (by omega)], by rw [E90, xU_k _ _ _ (by omega), E82, xC_k _ _ _ (by omega), E67, xC_j, if_pos ⟨j1, j2⟩, E52, xC_k _ _ _ (by omega), E37, xU_k _ _ _ (by omega), E29, xC_k _ _ _ (by omega), E13, xC_k _ _ _ (by omega)], by rw [E90, xU_k _ _ _ (by omega), E82, xC_j, if_pos ⟨j1, j2⟩, E67, xC_k _ _ _ (by omega), E52, xC_k _ _ _ (by omega), E37, xU_k _ _ _ (by omega), E29, xC_k _ _ _ (by omega), E13, xC_k _ _ _ (by omega)]⟩, by rw [E90, xU_j _ _ (by decide), E82, xC_k _ _ _ (by omega), E67, xC_k _ _ _ (by omega), E52, xC_k _ _ _ (by omega), E37, xU_s]; exact V37, by rw [E90, xU_s]; exact V90⟩⟩ dX4_copyFrom_93
set_option maxHeartbeats 4000000 in
set_option maxRecDepth 100000 in
theorem c_X10_lawK (l : Launch) (D : va_G) (g : xG) (T : Nat × Nat × Nat) (h0 : Nat) (s0 : xS) (hσ : xRR s0) (n : Int) (rn : xR n) (C9 : Int → Int) (L9 : Int → Int) (A9 : Int → Int) (B9 : Int → Int) (T9 : Int → Int) (p0 : IC s0) : Met l yX10_law (xws yX10_law cX10_law 3 (some .int)) { frames := 26, cells := 0, slots := 0, locals := 595 } (xP [.ref (h0 + 0), .int (xJ n)] D g T h0 s0) (xQi D g h0 (fun r τ => xFr (fun k => k = 1 ∨ k = 109 ∨ k = 110 ∨ k = 111 ∨ k = 112 ∨ k = 113 ∨ k = 114 ∨ k = 118 ∨ k = 119 ∨ k = 120 ∨ k = 121 ∨ k = 122 ∨ k = 123) s0 τ ∧ (((IC τ) ∧ True) ∧ (((n < 1 ∨ 240 < n ∨ s0 1 1 < n) ∧ τ 1 1 = s0 1 1 ∧ r = -1 ∧ (τ 110 = s0 110 ∧ τ 111 = s0 111 ∧ τ 112 = s0 112 ∧ τ 113 = s0 113 ∧ τ 114 = s0 114) ∧ τ 109 2 = s0 109 2 ∧ τ 109 6 = s0 109 6) ∨ (¬ (n < 1 ∨ 240 < n ∨ s0 1 1 < n) ∧ τ 1 1 = 0 ∧ (((zL0 (s0 2) n C9 L9 A9 B9 T9).1 ≠ 0 ∧ r = (zL0 (s0 2) n C9 L9 A9 B9 T9).1 ∧ (τ 110 = s0 110 ∧ τ 111 = s0 111 ∧ τ 112 = s0 112 ∧ τ 113 = s0 113 ∧ τ 114 = s0 114) ∧ τ 109 2 = s0 109 2 ∧ τ 109 6 = s0 109 6) ∨ (∃ M2 c2 C2 L2 A2 B2 T2, (zL0 (s0 2) n C9 L9 A9 B9 T9) = (0, M2, c2, C2, L2, A2, B2, T2) ∧ r = M2 ∧ τ 109 6 = M2 ∧ τ 109 2 = c2 + 2 * M2 ∧ zKR (τ 110) (τ 111) (τ 112) (τ 113) (τ 114) C2 L2 A2 B2 T2 M2 c2))))))) 0 0 (xA h0) := by
  refine x_met hσ (by decide) (Nat.le_of_ble_eq_true rfl) ?_
  intro p e s m args below meth c hx hb hr hml hown hT hlk hnm hE hW ls hl
  have hl : lv_has ls 3 [(0, .ref (h0 + 0)), (1, .int (xJ n))] := hl
  obtain ⟨Q, eQ⟩ : ∃ Q, Q = MQ below (xQi D g h0 (fun r τ => xFr (fun k => k = 1 ∨ k = 109 ∨ k = 110 ∨ k = 111 ∨ k = 112 ∨ k = 113 ∨ k = 114 ∨ k = 118 ∨ k = 119 ∨ k = 120 ∨ k = 121 ∨ k = 122 ∨ k = 123) s0 τ ∧ (((IC τ) ∧ True) ∧ (((n < 1 ∨ 240 < n ∨ s0 1 1 < n) ∧ τ 1 1 = s0 1 1 ∧ r = -1 ∧ (τ 110 = s0 110 ∧ τ 111 = s0 111 ∧ τ 112 = s0 112 ∧ τ 113 = s0 113 ∧ τ 114 = s0 114) ∧ τ 109 2 = s0 109 2 ∧ τ 109 6 = s0 109 6) ∨ (¬ (n < 1 ∨ 240 < n ∨ s0 1 1 < n) ∧ τ 1 1 = 0 ∧ (((zL0 (s0 2) n C9 L9 A9 B9 T9).1 ≠ 0 ∧ r = (zL0 (s0 2) n C9 L9 A9 B9 T9).1 ∧ (τ 110 = s0 110 ∧ τ 111 = s0 111 ∧ τ 112 = s0 112 ∧ τ 113 = s0 113 ∧ τ 114 = s0 114) ∧ τ 109 2 = s0 109 2 ∧ τ 109 6 = s0 109 6) ∨ (∃ M2 c2 C2 L2 A2 B2 T2, (zL0 (s0 2) n C9 L9 A9 B9 T9) = (0, M2, c2, C2, L2, A2, B2, T2) ∧ r = M2 ∧ τ 109 6 = M2 ∧ τ 109 2 = c2 + 2 * M2 ∧ zKR (τ 110) (τ 111) (τ 112) (τ 113) (τ 114) C2 L2 A2 B2 T2 M2 c2))))))) args s 0 0 (xA h0) := ⟨_, rfl⟩
  rw [← eQ]
  generalize hHe : ([] : List Loc) = locs at hW ⊢
  obtain ⟨H, eH⟩ : ∃ H, H = s.heap := ⟨_, rfl⟩
  rw [← eH] at hW ⊢
  have hF : xFr (fun k => k = 1 ∨ k = 109 ∨ k = 110 ∨ k = 111 ∨ k = 112 ∨ k = 113 ∨ k = 114 ∨ k = 118 ∨ k = 119 ∨ k = 120 ∨ k = 121 ∨ k = 122 ∨ k = 123) s0 s0 := xFr.rf
  have k1_1 : s0 1 1 = s0 1 1 := rfl
  refine x_iload_n hx hb hl 1 rfl dX10_law_0 rfl ?_
  refine x_iconst hx hb dX10_law_1 ?_
  refine x_sipush hx hb dX10_law_2 (by decide) ?_
  refine x_goi (x_runS (As := [.int (xJ n), .int (xJ 1), .int (xJ 240)]) hx hb hml hown hT hE hW hl.1 cf_X10_isIn wq562 wq561 (c_X10_isIn l D g T h0 s0 hW.2.1 n rn 1 (by decide) 240 (by decide)) ⟨rfl, rfl, ⟨by decide, by decide⟩, ⟨by decide, by decide⟩⟩ rfl rfl (Nat.le_of_ble_eq_true rfl) dX10_law_5) hW (fun x1 s2 H locs rx1 hp3 hW => ?_)
  obtain ⟨es2, hp3⟩ := hp3
  subst es2
  have ghp3 := hp3
  refine x_if_eq (tgt := 22) hx hb rx1 dX10_law_8 (by decide) (fun c4 => ?_) (fun c4 => ?_)
  · skip
    refine x_iconst hx hb dX10_law_22 ?_
    rw [eQ]
    exact x_iret hx hb hr hlk hW (by decide) ⟨hF, ⟨p0, trivial⟩, Or.inl ⟨by omega, by omega, by omega, by exact ⟨⟨rfl, rfl, rfl, rfl, rfl⟩, rfl, rfl⟩⟩⟩ dX10_law_23
  refine x_iload_n hx hb hl 1 rfl dX10_law_11 rfl ?_
  refine x_aload_n hx hb hl 0 rfl dX10_law_12 rfl ?_
  refine x_get (j := 0) (v := .ref (h0 + 1)) hx hb hown hT hE hW cls_X10 (Or.inl (by decide)) (so_0 h0 g _) (by decide) rfl wq512 dX10_law_13 ?_
  refine x_getN (j := 1) (v := .int (xJ (s0 1 1))) hx hb hown hT hE hW cls_X8 (Or.inl (by decide)) (so_1 h0 g _) (by decide) rfl wn198 dX10_law_16 ?_
  refine x_rd hW (fun x5 ex5 rx5 => ?_)
  have bx5 : 0 ≤ x5 ∧ x5 ≤ 260 := by rw [ex5]; exact IC.t p0
  have fx5 : x5 = s0 1 1 := ex5.trans k1_1
  refine x_icmp_le (tgt := 24) hx hb rn rx5 dX10_law_19 (by decide) (fun c6 => ?_) (fun c6 => ?_)
  · skip
    refine x_aload_n hx hb hl 0 rfl dX10_law_24 rfl ?_
    refine x_get (j := 0) (v := .ref (h0 + 1)) hx hb hown hT hE hW cls_X10 (Or.inl (by decide)) (so_0 h0 g _) (by decide) rfl wq512 dX10_law_25 ?_
    refine x_iload_n hx hb hl 1 rfl dX10_law_28 rfl ?_
    refine x_gov (x_runVN (As := [.int (xJ n)]) hx hb hml hown hT hE hW hl.1 (Or.inl (by decide)) (so_1 h0 g _) rfl cf_X8_open wq566 wq1 wn564 (c_X8_openM l D g T h0 s0 hW.2.1 n rn (by omega) p0) ⟨rfl, rfl, ⟨by decide, by decide⟩, ⟨by decide, by decide⟩⟩ rfl rfl (Nat.le_of_ble_eq_true rfl) dX10_law_29) hW (fun s8 H locs hp9 hW => ?_)
    obtain ⟨fs8, hp9⟩ := hp9
    have hF10 := hF.call fs8 (fun k h => by omega)
    have ghp9 := hp9.2
    have O29 := ghp9
    have Q29 : (s8 110 = s0 110 ∧ s8 111 = s0 111 ∧ s8 112 = s0 112 ∧ s8 113 = s0 113 ∧ s8 114 = s0 114) ∧ s8 109 2 = s0 109 2 ∧ s8 109 6 = s0 109 6 := ⟨⟨(fs8 110 (by omega)).trans rfl, (fs8 111 (by omega)).trans rfl, (fs8 112 (by omega)).trans rfl, (fs8 113 (by omega)).trans rfl, (fs8 114 (by omega)).trans rfl⟩, (congrFun (fs8 109 (by omega)) 2).trans rfl, (congrFun (fs8 109 (by omega)) 6).trans rfl⟩
    refine x_aload_n hx hb hl 0 rfl dX10_law_32 rfl ?_
    refine x_get (j := 3) (v := .ref (h0 + 117)) hx hb hown hT hE hW cls_X10 (Or.inl (by decide)) (so_0 h0 g _) (by decide) rfl wq515 dX10_law_33 ?_
    refine x_goi (x_runVN (As := []) hx hb hml hown hT hE hW hl.1 (Or.inl (by decide)) (so_117 h0 g _) rfl cf_X5_readWhole wq635 wq13 wn633 (c_X5_readWholeK l D g T h0 s8 hW.2.1 (s0 2) n C9 L9 A9 B9 T9 (⟨hF10 2 (by omega), by omega⟩) (by omega) hp9.1.1) ⟨rfl, rfl, ⟨by decide, by decide⟩, ⟨by decide, by decide⟩⟩ rfl rfl (Nat.le_of_ble_eq_true rfl) dX10_law_36) hW (fun x11 s12 H locs rx11 hp13 hW => ?_)
    obtain ⟨fs12, hp13⟩ := hp13
    have hF14 := hF10.call fs12 (fun k h => by omega)
    have ghp13 := hp13.2
    have H36 := fun (_ : Unit) => ghp13
    clear ghp13
    replace hp13 := And.intro hp13.1 trivial
    have Q36 : (s12 110 = s0 110 ∧ s12 111 = s0 111 ∧ s12 112 = s0 112 ∧ s12 113 = s0 113 ∧ s12 114 = s0 114) ∧ s12 109 2 = s0 109 2 ∧ s12 109 6 = s0 109 6 := ⟨⟨(fs12 110 (by omega)).trans Q29.1.1, (fs12 111 (by omega)).trans Q29.1.2.1, (fs12 112 (by omega)).trans Q29.1.2.2.1, (fs12 113 (by omega)).trans Q29.1.2.2.2.1, (fs12 114 (by omega)).trans Q29.1.2.2.2.2⟩, (congrFun (fs12 109 (by omega)) 2).trans Q29.2.1, (congrFun (fs12 109 (by omega)) 6).trans Q29.2.2⟩
    refine lv_istore_n (lv' := [(2, .int (xJ x11)), (0, .ref (h0 + 0)), (1, .int (xJ n))]) hx hb dX10_law_39 rfl hl (by decide) rfl (fun ls hl => ?_)
    refine x_aload_n hx hb hl 1 rfl dX10_law_40 rfl ?_
    refine x_get (j := 0) (v := .ref (h0 + 1)) hx hb hown hT hE hW cls_X10 (Or.inl (by decide)) (so_0 h0 g _) (by decide) rfl wq512 dX10_law_41 ?_
    refine x_gov (x_runVN (As := []) hx hb hml hown hT hE hW hl.1 (Or.inl (by decide)) (so_1 h0 g _) rfl cf_X8_drop wq607 wq7 wn605 (c_X8_dropM l D g T h0 s12 hW.2.1 hp13.1.1) ⟨rfl, rfl, ⟨by decide, by decide⟩, ⟨by decide, by decide⟩⟩ rfl rfl (Nat.le_of_ble_eq_true rfl) dX10_law_44) hW (fun s16 H locs hp17 hW => ?_)
    obtain ⟨fs16, hp17⟩ := hp17
    have hF18 := hF14.call fs16 (fun k h => by omega)
    have ghp17 := hp17.2
    have Q44 : (s16 110 = s0 110 ∧ s16 111 = s0 111 ∧ s16 112 = s0 112 ∧ s16 113 = s0 113 ∧ s16 114 = s0 114) ∧ s16 109 2 = s0 109 2 ∧ s16 109 6 = s0 109 6 := ⟨⟨(fs16 110 (by omega)).trans Q36.1.1, (fs16 111 (by omega)).trans Q36.1.2.1, (fs16 112 (by omega)).trans Q36.1.2.2.1, (fs16 113 (by omega)).trans Q36.1.2.2.2.1, (fs16 114 (by omega)).trans Q36.1.2.2.2.2⟩, (congrFun (fs16 109 (by omega)) 2).trans Q36.2.1, (congrFun (fs16 109 (by omega)) 6).trans Q36.2.2⟩
    have F44 := fs16
    refine x_iload_n hx hb hl 0 rfl dX10_law_47 rfl ?_
    refine x_if_ne (tgt := 59) hx hb rx11 dX10_law_48 (by decide) (fun c19 => ?_) (fun c19 => ?_)
    · skip
      refine x_aload_n hx hb hl 1 rfl dX10_law_59 rfl ?_
      refine x_get (j := 2) (v := .ref (h0 + 109)) hx hb hown hT hE hW cls_X10 (Or.inl (by decide)) (so_0 h0 g _) (by decide) rfl wq514 dX10_law_60 ?_
      refine x_aload_n hx hb hl 1 rfl dX10_law_63 rfl ?_
      refine x_get (j := 3) (v := .ref (h0 + 117)) hx hb hown hT hE hW cls_X10 (Or.inl (by decide)) (so_0 h0 g _) (by decide) rfl wq515 dX10_law_64 ?_
      refine x_getN (j := 1) (v := .ref (h0 + 118)) hx hb hown hT hE hW cls_X5 (Or.inl (by decide)) (so_117 h0 g _) (by decide) rfl wn295 dX10_law_67 ?_
      refine x_gov (x_runVN (As := [.ref (h0 + 118)]) hx hb hml hown hT hE hW hl.1 (Or.inl (by decide)) (so_109 h0 g _) rfl cf_X4_copyFrom wq696 wq26 wn694 (c_X4_copyFromK l D g T h0 s16 hW.2.1 hp17.1.1) ⟨rfl, rfl, ⟨by decide, by decide⟩, ⟨by decide, by decide⟩⟩ rfl rfl (Nat.le_of_ble_eq_true rfl) dX10_law_70) hW (fun s21 H locs hp22 hW => ?_)
      obtain ⟨fs21, hp22⟩ := hp22
      have hF23 := hF18.call fs21 (fun k h => by omega)
      have q24 : s21 1 1 = 0 := (congrFun (fs21 _ (by omega)) _).trans hp17.1.2.1
      have q25 : s21 1 4 = s12 1 4 := (congrFun (fs21 _ (by omega)) _).trans hp17.1.2.2.1
      have ghp22 := hp22.2
      have H70 := ghp22
      refine x_aload_n hx hb hl 1 rfl dX10_law_73 rfl ?_
      refine x_get (j := 2) (v := .ref (h0 + 109)) hx hb hown hT hE hW cls_X10 (Or.inl (by decide)) (so_0 h0 g _) (by decide) rfl wq514 dX10_law_74 ?_
      refine x_getN (j := 6) (v := .int (xJ (s21 109 6))) hx hb hown hT hE hW cls_X4 (Or.inl (by decide)) (so_109 h0 g _) (by decide) rfl wn263 dX10_law_77 ?_
      refine x_rd hW (fun x26 ex26 rx26 => ?_)
      have bx26 : 0 ≤ x26 ∧ x26 ≤ 16 := by rw [ex26]; exact (IC.l1 hp22.1.1).2
      rw [eQ]
      exact x_iret hx hb hr hlk hW rx26 ⟨hF23, ⟨hp22.1.1, trivial⟩, Or.inr ⟨by omega, by omega, Or.inr (by
      obtain ⟨c2, C2, L2, A2, B2, T2, e2, k2, u2⟩ := ((H36 ()).resolve_right (fun q => by omega)).2
      have w2 := zL0_wf (by omega) e2
      have g2 := congrFun (F44 118 (by omega)) 2
      have g6 := congrFun (F44 118 (by omega)) 6
      refine ⟨_, c2, C2, L2, A2, B2, T2, e2, by omega, by omega, by omega, ?_⟩
      refine k2.cp2 (fun j j1 j2 => ?_) (fun j j1 j2 => ?_)
      · rw [(H70.1 j j1 (by omega)).1, (H70.1 j j1 (by omega)).2, F44 119 (by omega), F44 120 (by omega)]; exact ⟨rfl, rfl⟩
      · rw [(H70.2.1 j j1 (by omega)).1, (H70.2.1 j j1 (by omega)).2.1, (H70.2.1 j j1 (by omega)).2.2, F44 121 (by omega), F44 122 (by omega), F44 123 (by omega)]; exact ⟨rfl, rfl, rfl⟩)⟩⟩ dX10_law_80
    refine x_aload_n hx hb hl 1 rfl dX10_law_51 rfl ?_
    refine x_get (j := 0) (v := .ref (h0 + 1)) hx hb hown hT hE hW cls_X10 (Or.inl (by decide)) (so_0 h0 g _) (by decide) rfl wq512 dX10_law_52 ?_
    refine x_getN (j := 4) (v := .int (xJ (s16 1 4))) hx hb hown hT hE hW cls_X8 (Or.inl (by decide)) (so_1 h0 g _) (by decide) rfl wn205 dX10_law_55 ?_
    refine x_rd hW (fun x27 ex27 rx27 => ?_)
    have fx27 : x27 = s12 1 4 := ex27.trans hp17.1.2.2.1
    rw [eQ]
    exact x_iret hx hb hr hlk hW rx27 ⟨hF18, ⟨hp17.1.1, trivial⟩, Or.inr ⟨by omega, by omega, Or.inl (by
      have e := (H36 ()).resolve_left (fun q => by omega)
      exact ⟨e.2.1, by omega, Q44⟩)⟩⟩ dX10_law_58
  refine x_iconst hx hb dX10_law_22 ?_
  rw [eQ]
  exact x_iret hx hb hr hlk hW (by decide) ⟨hF, ⟨p0, trivial⟩, Or.inl ⟨by omega, by omega, by omega, by exact ⟨⟨rfl, rfl, rfl, rfl, rfl⟩, rfl, rfl⟩⟩⟩ dX10_law_23
