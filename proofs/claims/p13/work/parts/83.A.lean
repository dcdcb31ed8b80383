set_option maxHeartbeats 4000000 in
set_option maxRecDepth 100000 in
theorem c_X2_hasFelonF (l : Launch) (D : va_G) (g : xG) (T : Nat × Nat × Nat) (h0 : Nat) (s0 : xS) (hσ : xRR s0) (d : Nat) (hd : xDay d) (f : Int) (rf : xR f) (p0 : IC s0) : Met l yX2_hasFelon (xws yX2_hasFelon cX2_hasFelon 2 (some .boolean)) { frames := 0, cells := 0, slots := 0, locals := 0 } (xP [.ref (h0 + d), .int (xJ f)] D g T h0 s0) (xQi D g h0 (fun r τ => s0 = τ ∧ ((r = 1 ∧ 0 ≤ f ∧ f < 10 ∧ s0 (d + 6) f ≠ -1) ∨ (r = 0 ∧ ¬ (0 ≤ f ∧ f < 10 ∧ s0 (d + 6) f ≠ -1))))) 0 0 (xA h0) := by
  refine x_met hσ (by decide) (Nat.le_of_ble_eq_true rfl) ?_
  intro p e s m args below meth c hx hb hr hml hown hT hlk hnm hE hW ls hl
  have hl : lv_has ls 2 [(0, .ref (h0 + d)), (1, .int (xJ f))] := hl
  obtain ⟨Q, eQ⟩ : ∃ Q, Q = MQ below (xQi D g h0 (fun r τ => s0 = τ ∧ ((r = 1 ∧ 0 ≤ f ∧ f < 10 ∧ s0 (d + 6) f ≠ -1) ∨ (r = 0 ∧ ¬ (0 ≤ f ∧ f < 10 ∧ s0 (d + 6) f ≠ -1))))) args s 0 0 (xA h0) := ⟨_, rfl⟩
  rw [← eQ]
  generalize hHe : ([] : List Loc) = locs at hW ⊢
  obtain ⟨H, eH⟩ : ∃ H, H = s.heap := ⟨_, rfl⟩
  rw [← eH] at hW ⊢
  have hbd : (136 ≤ d ∧ d < 209) ∧ (d ≤ 146 ∨ 158 ≤ d) := by unfold xDay at hd; omega
  have k1_1 : s0 1 1 = s0 1 1 := rfl
  refine x_iload_n hx hb hl 1 rfl dX2_hasFelon_0 rfl ?_
  refine x_if_lt (tgt := 24) hx hb rf dX2_hasFelon_1 (by decide) (fun c1 => ?_) (fun c1 => ?_)
  · skip
    refine x_iconst hx hb dX2_hasFelon_24 ?_
    rw [eQ]
    exact x_zret hx hb hr hlk hW (by omega) ⟨rfl, by omega⟩ dX2_hasFelon_25
  refine x_iload_n hx hb hl 1 rfl dX2_hasFelon_4 rfl ?_
  refine x_bipush hx hb dX2_hasFelon_5 (by decide) ?_
  refine x_icmp_ge (tgt := 24) hx hb rf (by decide) dX2_hasFelon_7 (by decide) (fun c2 => ?_) (fun c2 => ?_)
  · skip
    refine x_iconst hx hb dX2_hasFelon_24 ?_
    rw [eQ]
    exact x_zret hx hb hr hlk hW (by omega) ⟨rfl, by omega⟩ dX2_hasFelon_25
  refine x_aload_n hx hb hl 0 rfl dX2_hasFelon_10 rfl ?_
  refine x_get (j := 3) (v := .ref (h0 + (d + 6))) hx hb hown hT hE hW cls_X2 (Or.inl (by omega)) (so_day0 h0 g hd _) (by decide) rfl wq388 dX2_hasFelon_11 ?_
  refine x_iload_n hx hb hl 1 rfl dX2_hasFelon_14 rfl ?_
  refine x_iald hx hb hE hW (Or.inl (by omega)) (sa_day6 h0 g hd _) (by omega) (by decide) dX2_hasFelon_15 ?_
  refine x_rd hW (fun x3 ex3 rx3 => ?_)
  refine x_iconst hx hb dX2_hasFelon_16 ?_
  refine x_icmp_eq (tgt := 24) hx hb rx3 (by decide) dX2_hasFelon_17 (by decide) (fun c4 => ?_) (fun c4 => ?_)
  · skip
    refine x_iconst hx hb dX2_hasFelon_24 ?_
    rw [eQ]
    exact x_zret hx hb hr hlk hW (by omega) ⟨rfl, by omega⟩ dX2_hasFelon_25
  refine x_iconst hx hb dX2_hasFelon_20 ?_
  refine lv_goto (tgt := 25) hx hb dX2_hasFelon_21 (by decide) ?_
  rw [eQ]
  exact x_zret hx hb hr hlk hW (by omega) ⟨rfl, by omega⟩ dX2_hasFelon_25
set_option maxHeartbeats 4000000 in
set_option maxRecDepth 100000 in
theorem c_X2_mustServeF (l : Launch) (D : va_G) (g : xG) (T : Nat × Nat × Nat) (h0 : Nat) (s0 : xS) (hσ : xRR s0) (d : Nat) (hd : xDay d) (f : Int) (rf : xR f) (hf : 0 ≤ f ∧ f < 10) (p0 : IC s0) : Met l yX2_mustServe (xws yX2_mustServe cX2_mustServe 2 (some .boolean)) { frames := 1, cells := 0, slots := 0, locals := 21 } (xP [.ref (h0 + d), .int (xJ f)] D g T h0 s0) (xQi D g h0 (fun r τ => s0 = τ ∧ ((r = 1 ∧ zOw (zYc s0 d) f) ∨ (r = 0 ∧ ¬ zOw (zYc s0 d) f)))) 0 0 (xA h0) := by
  refine x_met hσ (by decide) (Nat.le_of_ble_eq_true rfl) ?_
  intro p e s m args below meth c hx hb hr hml hown hT hlk hnm hE hW ls hl
  have hl : lv_has ls 2 [(0, .ref (h0 + d)), (1, .int (xJ f))] := hl
  obtain ⟨Q, eQ⟩ : ∃ Q, Q = MQ below (xQi D g h0 (fun r τ => s0 = τ ∧ ((r = 1 ∧ zOw (zYc s0 d) f) ∨ (r = 0 ∧ ¬ zOw (zYc s0 d) f)))) args s 0 0 (xA h0) := ⟨_, rfl⟩
  rw [← eQ]
  generalize hHe : ([] : List Loc) = locs at hW ⊢
  obtain ⟨H, eH⟩ : ∃ H, H = s.heap := ⟨_, rfl⟩
  rw [← eH] at hW ⊢
  have hbd : (136 ≤ d ∧ d < 209) ∧ (d ≤ 146 ∨ 158 ≤ d) := by unfold xDay at hd; omega
  have k1_1 : s0 1 1 = s0 1 1 := rfl
  refine x_aload_n hx hb hl 0 rfl dX2_mustServe_0 rfl ?_
  refine x_iload_n hx hb hl 1 rfl dX2_mustServe_1 rfl ?_
  refine x_goi (x_runV (As := [.int (xJ f)]) hx hb hml hown hT hE hW hl.1 (Or.inl (by omega)) (so_day0 h0 g hd _) rfl cf_X2_hasFelon wq862 wq53 wq860 (c_X2_hasFelonF l D g T h0 s0 hW.2.1 d hd f rf p0) ⟨rfl, rfl, ⟨by decide, by decide⟩, ⟨by decide, by decide⟩⟩ rfl rfl (Nat.le_of_ble_eq_true rfl) dX2_mustServe_2) hW (fun x1 s2 H locs rx1 hp3 hW => ?_)
  obtain ⟨es2, hp3⟩ := hp3
  subst es2
  have ghp3 := hp3
  have H2 := ghp3
  refine x_if_eq (tgt := 30) hx hb rx1 dX2_mustServe_5 (by decide) (fun c4 => ?_) (fun c4 => ?_)
  · skip
    refine x_iconst hx hb dX2_mustServe_30 ?_
    rw [eQ]
    exact x_zret hx hb hr hlk hW (by omega) ⟨rfl, by rw [zOw_c hf]; omega⟩ dX2_mustServe_31
  refine x_aload_n hx hb hl 0 rfl dX2_mustServe_8 rfl ?_
  refine x_get (j := 4) (v := .ref (h0 + (d + 7))) hx hb hown hT hE hW cls_X2 (Or.inl (by omega)) (so_day0 h0 g hd _) (by decide) rfl wq392 dX2_mustServe_9 ?_
  refine x_iload_n hx hb hl 1 rfl dX2_mustServe_12 rfl ?_
  refine x_iald hx hb hE hW (Or.inl (by omega)) (sa_day7 h0 g hd _) (by omega) (by decide) dX2_mustServe_13 ?_
  refine x_rd hW (fun x5 ex5 rx5 => ?_)
  have V13 := ex5
  refine x_if_le (tgt := 30) hx hb rx5 dX2_mustServe_14 (by decide) (fun c6 => ?_) (fun c6 => ?_)
  · skip
    refine x_iconst hx hb dX2_mustServe_30 ?_
    rw [eQ]
    exact x_zret hx hb hr hlk hW (by omega) ⟨rfl, by rw [zOw_c hf]; omega⟩ dX2_mustServe_31
  refine x_aload_n hx hb hl 0 rfl dX2_mustServe_17 rfl ?_
  refine x_get (j := 6) (v := .ref (h0 + (d + 9))) hx hb hown hT hE hW cls_X2 (Or.inl (by omega)) (so_day0 h0 g hd _) (by decide) rfl wq398 dX2_mustServe_18 ?_
  refine x_iload_n hx hb hl 1 rfl dX2_mustServe_21 rfl ?_
  refine x_zald hx hb hE hW (Or.inl (by omega)) (sa_day9 h0 g hd _) (by omega) (by decide) dX2_mustServe_22 ?_
  refine x_rd hW (fun x7 ex7 rx7 => ?_)
  have bx7 : x7 = 0 ∨ x7 = 1 := by rw [ex7]; exact IC.b p0 hd _ (by omega) (by omega)
  have V22 := ex7
  refine x_if_ne (tgt := 30) hx hb rx7 dX2_mustServe_23 (by decide) (fun c8 => ?_) (fun c8 => ?_)
  · skip
    refine x_iconst hx hb dX2_mustServe_30 ?_
    rw [eQ]
    exact x_zret hx hb hr hlk hW (by omega) ⟨rfl, by rw [zOw_c hf]; omega⟩ dX2_mustServe_31
  refine x_iconst hx hb dX2_mustServe_26 ?_
  refine lv_goto (tgt := 31) hx hb dX2_mustServe_27 (by decide) ?_
  rw [eQ]
  exact x_zret hx hb hr hlk hW (by omega) ⟨rfl, by rw [zOw_c hf]; omega⟩ dX2_mustServe_31
set_option maxHeartbeats 4000000 in
set_option maxRecDepth 100000 in
theorem c_X0_tellFelonF (l : Launch) (D : va_G) (g : xG) (T : Nat × Nat × Nat) (h0 : Nat) (s0 : xS) (hσ : xRR s0) (d : Nat) (hd : xDay d) (f : Int) (rf : xR f) (K9 : Int → Int) (hf : 0 ≤ f ∧ f < 10) (hK : ∀ t : Int, 0 ≤ t → t < 100 → s0 4 t = K9 t) (hfr : ∀ f : Int, 0 ≤ f → f < 10 → s0 (d + 6) f = -1 ∨ (0 ≤ s0 (d + 6) f ∧ s0 (d + 6) f < 100)) (ht0 : s0 (d + 6) f ≠ -1) (p0 : IC s0) : Met l yX0_tellFelon (xws yX0_tellFelon cX0_tellFelon 4 none) { frames := 2, cells := 0, slots := 0, locals := 47 } (xP [.ref (h0 + 128), .ref (h0 + d), .int (xJ f)] D g T h0 s0) (xQv D g h0 (fun τ => xFr (fun k => k = 115) s0 τ ∧ (((IC τ) ∧ True) ∧ (∀ k : Int, 0 ≤ k → k < 7 → τ 115 k = zff K9 (zYc s0 d) f k)))) 0 0 (xA h0) := by
  refine x_met hσ (by decide) (Nat.le_of_ble_eq_true rfl) ?_
  intro p e s m args below meth c hx hb hr hml hown hT hlk hnm hE hW ls hl
  have hl : lv_has ls 4 [(0, .ref (h0 + 128)), (1, .ref (h0 + d)), (2, .int (xJ f))] := hl
  obtain ⟨Q, eQ⟩ : ∃ Q, Q = MQ below (xQv D g h0 (fun τ => xFr (fun k => k = 115) s0 τ ∧ (((IC τ) ∧ True) ∧ (∀ k : Int, 0 ≤ k → k < 7 → τ 115 k = zff K9 (zYc s0 d) f k)))) args s 0 0 (xA h0) := ⟨_, rfl⟩
  rw [← eQ]
  generalize hHe : ([] : List Loc) = locs at hW ⊢
  obtain ⟨H, eH⟩ : ∃ H, H = s.heap := ⟨_, rfl⟩
  rw [← eH] at hW ⊢
  have hF : xFr (fun k => k = 115) s0 s0 := xFr.rf
  have hbd : (136 ≤ d ∧ d < 209) ∧ (d ≤ 146 ∨ 158 ≤ d) := by unfold xDay at hd; omega
  have k1_1 : s0 1 1 = s0 1 1 := rfl
  have kd_7 : s0 d 7 = s0 d 7 := rfl
  have hm7 := IC.m p0 hd
  have hr9 := hfr f hf.1 hf.2
  refine x_aload_n hx hb hl 1 rfl dX0_tellFelon_0 rfl ?_
  refine x_iload_n hx hb hl 2 rfl dX0_tellFelon_1 rfl ?_
  refine x_goi (x_runVN (As := [.int (xJ f)]) hx hb hml hown hT hE hW hl.1 (Or.inl (by omega)) (so_day0 h0 g hd _) rfl cf_X2_hasFelon wq862 wq53 wn868 (c_X2_hasFelonF l D g T h0 s0 hW.2.1 d hd f rf p0) ⟨rfl, rfl, ⟨by decide, by decide⟩, ⟨by decide, by decide⟩⟩ rfl rfl (Nat.le_of_ble_eq_true rfl) dX0_tellFelon_2) hW (fun x1 s2 H locs rx1 hp3 hW => ?_)
  obtain ⟨es2, hp3⟩ := hp3
  subst es2
  have ghp3 := hp3
  refine x_if_eq (tgt := 56) hx hb rx1 dX0_tellFelon_5 (by decide) (fun c4 => False.elim (by omega)) (fun c4 => ?_)
  refine x_aload_n hx hb hl 0 rfl dX0_tellFelon_8 rfl ?_
  refine x_get (j := 0) (v := .ref (h0 + 3)) hx hb hown hT hE hW cls_X0 (Or.inl (by decide)) (so_128 h0 g _) (by decide) rfl wq351 dX0_tellFelon_9 ?_
  refine x_aload_n hx hb hl 1 rfl dX0_tellFelon_12 rfl ?_
  refine x_getN (j := 3) (v := .ref (h0 + (d + 6))) hx hb hown hT hE hW cls_X2 (Or.inl (by omega)) (so_day0 h0 g hd _) (by decide) rfl wn390 dX0_tellFelon_13 ?_
  refine x_iload_n hx hb hl 2 rfl dX0_tellFelon_16 rfl ?_
  refine x_iald hx hb hE hW (Or.inl (by omega)) (sa_day6 h0 g hd _) (by omega) (by decide) dX0_tellFelon_17 ?_
  refine x_rd hW (fun x5 ex5 rx5 => ?_)
  have V17 : x5 = s0 (d + 6) f := ex5
  refine x_goi (x_runVN (As := [.int (xJ x5)]) hx hb hml hown hT hE hW hl.1 (Or.inl (by decide)) (so_3 h0 g _) rfl cf_X6_kindAt wq619 wq10 wn848 (c_X6_kindAt l D g T h0 s0 hW.2.1 x5 rx5 p0) ⟨rfl, rfl, ⟨by decide, by decide⟩, ⟨by decide, by decide⟩⟩ rfl rfl (Nat.le_of_ble_eq_true rfl) dX0_tellFelon_18) hW (fun x6 s7 H locs rx6 hp8 hW => ?_)
  obtain ⟨es7, hp8⟩ := hp8
  subst es7
  have ghp8 := hp8
  have K18 : x6 = K9 (s0 (d + 6) f) := by
    have e := (ghp8.resolve_right (fun q => by omega)).2.2
    rw [V17] at e
    exact e.trans (hK _ (by omega) (by omega))
  refine x_iconst hx hb dX0_tellFelon_21 ?_
  have J30 : ∀ (t0_30 : Int) (ls : Array Slot), (xR t0_30) → (t0_30 = (if K9 (s0 (d + 6) f) = 2 then 1 else 0)) → lv_has ls 4 [(0, .ref (h0 + 128)), (1, .ref (h0 + d)), (2, .int (xJ f))] → W p l e { frames := 2, cells := 0, slots := 0, locals := 47 } s m args below meth c H locs 0 0 Q (F0 m 30 ls [.int (xJ t0_30)]) := by
    intro t0_30 ls rt0_30 v30_0  hl
    refine lv_istore_n (lv' := [(3, .int (xJ t0_30)), (0, .ref (h0 + 128)), (1, .ref (h0 + d)), (2, .int (xJ f))]) hx hb dX0_tellFelon_30 rfl hl (by decide) rfl (fun ls hl => ?_)
    refine x_aload_n hx hb hl 1 rfl dX0_tellFelon_31 rfl ?_
    refine x_get (j := 1) (v := .ref (h0 + 109)) hx hb hown hT hE hW cls_X0 (Or.inl (by decide)) (so_128 h0 g _) (by decide) rfl wq354 dX0_tellFelon_32 ?_
    refine x_aload_n hx hb hl 2 rfl dX0_tellFelon_35 rfl ?_
    refine x_getN (j := 7) (v := .int (xJ (s0 d 7))) hx hb hown hT hE hW cls_X2 (Or.inl (by omega)) (so_day0 h0 g hd _) (by decide) rfl wn402 dX0_tellFelon_36 ?_
    refine x_rd hW (fun x9 ex9 rx9 => ?_)
    have bx9 : 0 ≤ x9 ∧ x9 ≤ 9999 := by rw [ex9]; exact IC.m p0 hd
    have fx9 : x9 = s0 d 7 := ex9.trans kd_7
    have V36 : x9 = s0 d 7 := ex9
    refine x_iload_n hx hb hl 3 rfl dX0_tellFelon_39 rfl ?_
    refine x_aload_n hx hb hl 2 rfl dX0_tellFelon_40 rfl ?_
    refine x_getN (j := 4) (v := .ref (h0 + (d + 7))) hx hb hown hT hE hW cls_X2 (Or.inl (by omega)) (so_day0 h0 g hd _) (by decide) rfl wn393 dX0_tellFelon_41 ?_
    refine x_iload_n hx hb hl 3 rfl dX0_tellFelon_44 rfl ?_
    refine x_iald hx hb hE hW (Or.inl (by omega)) (sa_day7 h0 g hd _) (by omega) (by decide) dX0_tellFelon_45 ?_
    refine x_rd hW (fun x10 ex10 rx10 => ?_)
    have V45 : x10 = s0 (d + 7) f := ex10
    refine x_aload_n hx hb hl 2 rfl dX0_tellFelon_46 rfl ?_
    refine x_getN (j := 5) (v := .ref (h0 + (d + 8))) hx hb hown hT hE hW cls_X2 (Or.inl (by omega)) (so_day0 h0 g hd _) (by decide) rfl wn396 dX0_tellFelon_47 ?_
    refine x_iload_n hx hb hl 3 rfl dX0_tellFelon_50 rfl ?_
    refine x_iald hx hb hE hW (Or.inl (by omega)) (sa_day8 h0 g hd _) (by omega) (by decide) dX0_tellFelon_51 ?_
    refine x_rd hW (fun x11 ex11 rx11 => ?_)
    have V51 : x11 = s0 (d + 8) f := ex11
    refine x_iload_n hx hb hl 0 rfl dX0_tellFelon_52 rfl ?_
    refine x_gov (x_runVN (As := [.int (xJ x9), .int (xJ f), .int (xJ x10), .int (xJ x11), .int (xJ t0_30)]) hx hb hml hown hT hE hW hl.1 (Or.inl (by decide)) (so_109 h0 g _) rfl cf_X4_tellFelon wq871 wq55 wn869 (c_X4_tellFelonF l D g T h0 s0 hW.2.1 x9 rx9 f rf x10 rx10 x11 rx11 t0_30 rt0_30 (by omega) p0) ⟨rfl, rfl, ⟨by decide, by decide⟩, ⟨by decide, by decide⟩⟩ rfl rfl (Nat.le_of_ble_eq_true rfl) dX0_tellFelon_53) hW (fun s13 H locs hp14 hW => ?_)
    obtain ⟨fs13, hp14⟩ := hp14
    have hF15 := hF.call fs13 (fun k h => by omega)
    have q16 : s13 1 1 = s0 1 1 := (congrFun (fs13 _ (by omega)) _).trans k1_1
    have q17 : s13 d 7 = s0 d 7 := (congrFun (fs13 _ (by omega)) _).trans kd_7
    have ghp14 := hp14.2
    have H53 := ghp14
    rw [V36, V45, V51, v30_0] at H53
    rw [eQ]
    exact x_vret hx hb hr hlk hW ⟨hF15, ⟨hp14.1.1, trivial⟩, by rw [zff_c hf]; exact H53⟩ dX0_tellFelon_56
  refine x_icmp_ne (tgt := 29) hx hb rx6 (by decide) dX0_tellFelon_22 (by decide) (fun c18 => ?_) (fun c18 => ?_)
  · skip
    refine x_iconst hx hb dX0_tellFelon_29 ?_
    exact J30 0 ls (by decide) (by first | (rw [if_pos (by omega)]) | (rw [if_neg (by omega)]))  (lv_sub hl [0, 1, 2] rfl)
  refine x_iconst hx hb dX0_tellFelon_25 ?_
  refine lv_goto (tgt := 30) hx hb dX0_tellFelon_26 (by decide) ?_
  exact J30 1 ls (by decide) (by first | (rw [if_pos (by omega)]) | (rw [if_neg (by omega)]))  (lv_sub hl [0, 1, 2] rfl)
set_option maxHeartbeats 4000000 in
set_option maxRecDepth 100000 in
theorem c_X0_reachOfF (l : Launch) (D : va_G) (g : xG) (T : Nat × Nat × Nat) (h0 : Nat) (s0 : xS) (hσ : xRR s0) (d : Nat) (hd : xDay d) (f : Int) (rf : xR f) (q9 : zLaw) (K9 : Int → Int) (hok : zLok q9) (hlc : zLD s0 q9) (hf : 0 ≤ f ∧ f < 10) (hK : ∀ t : Int, 0 ≤ t → t < 100 → s0 4 t = K9 t) (hfr : ∀ f : Int, 0 ≤ f → f < 10 → s0 (d + 6) f = -1 ∨ (0 ≤ s0 (d + 6) f ∧ s0 (d + 6) f < 100)) (ht0 : s0 (d + 6) f ≠ -1) (p0 : IC s0) : Met l yX0_reachOf (xws yX0_reachOf cX0_reachOf 3 (some .int)) { frames := 3, cells := 0, slots := 0, locals := 73 } (xP [.ref (h0 + 128), .ref (h0 + d), .int (xJ f)] D g T h0 s0) (xQi D g h0 (fun r τ => xFr (fun k => k = 115 ∨ k = 116) s0 τ ∧ (((IC τ) ∧ True) ∧ (r = zvF K9 q9 (zYc s0 d) 118 3 f)))) 0 0 (xA h0) := by
  refine x_met hσ (by decide) (Nat.le_of_ble_eq_true rfl) ?_
  intro p e s m args below meth c hx hb hr hml hown hT hlk hnm hE hW ls hl
  have hl : lv_has ls 3 [(0, .ref (h0 + 128)), (1, .ref (h0 + d)), (2, .int (xJ f))] := hl
  obtain ⟨Q, eQ⟩ : ∃ Q, Q = MQ below (xQi D g h0 (fun r τ => xFr (fun k => k = 115 ∨ k = 116) s0 τ ∧ (((IC τ) ∧ True) ∧ (r = zvF K9 q9 (zYc s0 d) 118 3 f)))) args s 0 0 (xA h0) := ⟨_, rfl⟩
  rw [← eQ]
  generalize hHe : ([] : List Loc) = locs at hW ⊢
  obtain ⟨H, eH⟩ : ∃ H, H = s.heap := ⟨_, rfl⟩
  rw [← eH] at hW ⊢
  have hF : xFr (fun k => k = 115 ∨ k = 116) s0 s0 := xFr.rf
  have hbd : (136 ≤ d ∧ d < 209) ∧ (d ≤ 146 ∨ 158 ≤ d) := by unfold xDay at hd; omega
  have k1_1 : s0 1 1 = s0 1 1 := rfl
  have kd_7 : s0 d 7 = s0 d 7 := rfl
  refine x_aload_n hx hb hl 0 rfl dX0_reachOf_0 rfl ?_
  refine x_aload_n hx hb hl 1 rfl dX0_reachOf_1 rfl ?_
  refine x_iload_n hx hb hl 2 rfl dX0_reachOf_2 rfl ?_
  refine x_gov (x_runV (As := [.ref (h0 + d), .int (xJ f)]) hx hb hml hown hT hE hW hl.1 (Or.inl (by decide)) (so_128 h0 g _) rfl cf_X0_tellFelon wq866 wq54 wq864 (c_X0_tellFelonF l D g T h0 s0 hW.2.1 d hd f rf K9 (by omega) (by first | exact hK | exact fun t t1 t2 => by rw [hF 4 (by omega)]; exact hK t t1 t2) (by first | exact hfr | exact fun i i1 i2 => by rw [hF _ (by omega)]; exact hfr i i1 i2) (by omega) p0) ⟨rfl, rfl, ⟨by decide, by decide⟩, ⟨by decide, by decide⟩⟩ rfl rfl (Nat.le_of_ble_eq_true rfl) dX0_reachOf_3) hW (fun s2 H locs hp3 hW => ?_)
  obtain ⟨fs2, hp3⟩ := hp3
  have hF4 := hF.call fs2 (fun k h => by omega)
  have q5 : s2 1 1 = s0 1 1 := (congrFun (fs2 _ (by omega)) _).trans k1_1
  have q6 : s2 d 7 = s0 d 7 := (congrFun (fs2 _ (by omega)) _).trans kd_7
  have ghp3 := hp3.2
  have H3 := ghp3
  refine x_aload_n hx hb hl 0 rfl dX0_reachOf_6 rfl ?_
  refine x_get (j := 1) (v := .ref (h0 + 109)) hx hb hown hT hE hW cls_X0 (Or.inl (by decide)) (so_128 h0 g _) (by decide) rfl wq354 dX0_reachOf_7 ?_
  refine x_bipush hx hb dX0_reachOf_10 (by decide) ?_
  refine x_iconst hx hb dX0_reachOf_12 ?_
  refine x_goi (x_runVN (As := [.int (xJ 118), .int (xJ 3)]) hx hb hml hown hT hE hW hl.1 (Or.inl (by decide)) (so_109 h0 g _) rfl cf_X4_worthOf wq802 wq42 wn800 (c_X4_worthOfF l D g T h0 s2 hW.2.1 118 (by decide) 3 (by decide) q9 (zff K9 (zYc s0 d) f) (hok) (by first | exact hlc | exact hlc.f (fun k hk => hF4 k (by omega))) (H3) (by decide) (by decide) hp3.1.1) ⟨rfl, rfl, ⟨by decide, by decide⟩, ⟨by decide, by decide⟩⟩ rfl rfl (Nat.le_of_ble_eq_true rfl) dX0_reachOf_13) hW (fun x7 s8 H locs rx7 hp9 hW => ?_)
  obtain ⟨fs8, hp9⟩ := hp9
  have hF10 := hF4.call fs8 (fun k h => by omega)
  have q11 : s8 1 1 = s0 1 1 := (congrFun (fs8 _ (by omega)) _).trans q5
  have q12 : s8 d 7 = s0 d 7 := (congrFun (fs8 _ (by omega)) _).trans q6
  have ghp9 := hp9.2
  have H13 := ghp9
  rw [eQ]
  exact x_iret hx hb hr hlk hW rx7 ⟨hF10, ⟨hp9.1.1, trivial⟩, H13⟩ dX0_reachOf_16
set_option maxHeartbeats 4000000 in
set_option maxRecDepth 100000 in
theorem c_X0_lineUpF (l : Launch) (D : va_G) (g : xG) (T : Nat × Nat × Nat) (h0 : Nat) (s0 : xS) (hσ : xRR s0) (d : Nat) (hd : xDay d) (a : Int) (ra : xR a) (q9 : zLaw) (K9 : Int → Int) (hok : zLok q9) (hlc : zLD s0 q9) (hK : ∀ t : Int, 0 ≤ t → t < 100 → s0 4 t = K9 t) (hfr : ∀ f : Int, 0 ≤ f → f < 10 → s0 (d + 6) f = -1 ∨ (0 ≤ s0 (d + 6) f ∧ s0 (d + 6) f < 100)) (p0 : IC s0) : Met l yX0_lineUp (xws yX0_lineUp cX0_lineUp 7 (some .int)) { frames := 3, cells := 0, slots := 0, locals := 73 } (xP [.ref (h0 + 128), .ref (h0 + d), .int (xJ a)] D g T h0 s0) (xQi D g h0 (fun r τ => xFr (fun k => k = 115 ∨ k = 116 ∨ k = 134 ∨ k = 135) s0 τ ∧ (((IC τ) ∧ True) ∧ ((0 ≤ r ∧ r ≤ 10) ∧ zls (τ 134) 0 r.toNat = zlu K9 q9 (zYc s0 d) a 1000 10)))) 0 0 (xA h0) := by
  refine x_met hσ (by decide) (Nat.le_of_ble_eq_true rfl) ?_
  intro p e s m args below meth c hx hb hr hml hown hT hlk hnm hE hW ls hl
  have hl : lv_has ls 7 [(0, .ref (h0 + 128)), (1, .ref (h0 + d)), (2, .int (xJ a))] := hl
  obtain ⟨Q, eQ⟩ : ∃ Q, Q = MQ below (xQi D g h0 (fun r τ => xFr (fun k => k = 115 ∨ k = 116 ∨ k = 134 ∨ k = 135) s0 τ ∧ (((IC τ) ∧ True) ∧ ((0 ≤ r ∧ r ≤ 10) ∧ zls (τ 134) 0 r.toNat = zlu K9 q9 (zYc s0 d) a 1000 10)))) args s 0 0 (xA h0) := ⟨_, rfl⟩
  rw [← eQ]
  generalize hHe : ([] : List Loc) = locs at hW ⊢
  obtain ⟨H, eH⟩ : ∃ H, H = s.heap := ⟨_, rfl⟩
  rw [← eH] at hW ⊢
  have hF : xFr (fun k => k = 115 ∨ k = 116 ∨ k = 134 ∨ k = 135) s0 s0 := xFr.rf
  have hbd : (136 ≤ d ∧ d < 209) ∧ (d ≤ 146 ∨ 158 ≤ d) := by unfold xDay at hd; omega
  have k1_1 : s0 1 1 = s0 1 1 := rfl
  have kd_7 : s0 d 7 = s0 d 7 := rfl
  refine x_iconst hx hb dX0_lineUp_0 ?_
  refine lv_istore_n (lv' := [(3, .int (xJ 0)), (0, .ref (h0 + 128)), (1, .ref (h0 + d)), (2, .int (xJ a))]) hx hb dX0_lineUp_1 rfl hl (by decide) rfl (fun ls hl => ?_)
  refine x_iconst hx hb dX0_lineUp_2 ?_
  refine lv_istore (lv' := [(4, .int (xJ 0)), (3, .int (xJ 0)), (0, .ref (h0 + 128)), (1, .ref (h0 + d)), (2, .int (xJ a))]) hx hb dX0_lineUp_3 hl (by decide) rfl (fun ls hl => ?_)
  have L5 : ∀ (fu : Nat) (i3_5 : Int) (i4_5 : Int) (s_5 : xS) (H : Heap) (locs : List Loc) (ls : Array Slot), (xR i3_5) → (xR i4_5) → (xFr (fun k => k = 115 ∨ k = 116 ∨ k = 134 ∨ k = 135) s0 s_5) → (IC s_5) → (s_5 1 1 = s0 1 1) → (s_5 d 7 = s0 d 7) → (0 ≤ i4_5 ∧ i4_5 ≤ 10) → (0 ≤ i3_5 ∧ i3_5 ≤ i4_5) → (zls (s_5 134) 0 (i3_5).toNat = zlu K9 q9 (zYc s0 d) a 1000 (i4_5).toNat) → (∀ k : Int, 0 ≤ k → k < i3_5 → s_5 135 k = zrq K9 q9 (zYc s0 d) a 1000 (s_5 134 k)) → (10 - i4_5).toNat < fu → xW D g h0 s H locs s_5 → lv_has ls 7 [(0, .ref (h0 + 128)), (1, .ref (h0 + d)), (2, .int (xJ a)), (3, .int (xJ i3_5)), (4, .int (xJ i4_5))] → W p l e { frames := 3, cells := 0, slots := 0, locals := 73 } s m args below meth c H locs 0 0 Q (F0 m 5 ls []) := by
    intro fu
    induction fu with
    | zero => intro i3_5 i4_5 s_5 H locs ls ri3_5 ri4_5 hF_5 q5_0 q5_1 q5_2 v5_0 v5_1 v5_2 v5_3 hm; exact absurd hm (Nat.not_lt_zero _)
    | succ fu ih5 =>
      intro i3_5 i4_5 s_5 H locs ls ri3_5 ri4_5 hF_5 q5_0 q5_1 q5_2 v5_0 v5_1 v5_2 v5_3 hm hW hl
      have hm_5 := fun (_ : Unit) => hm
      clear hm
      refine x_iload hx hb hl 4 rfl dX0_lineUp_5 ?_
      refine x_bipush hx hb dX0_lineUp_7 (by decide) ?_
      refine x_icmp_ge (tgt := 144) hx hb ri4_5 (by decide) dX0_lineUp_9 (by decide) (fun c1 => ?_) (fun c1 => ?_)
      · skip
        refine x_iload_n hx hb hl 3 rfl dX0_lineUp_144 rfl ?_
        rw [eQ]
        exact x_iret hx hb hr hlk hW ri3_5 ⟨hF_5, ⟨q5_0, trivial⟩, ⟨by omega, by rw [v5_2, show (i4_5).toNat = 10 from by omega]⟩⟩ dX0_lineUp_145
      refine x_aload_n hx hb hl 1 rfl dX0_lineUp_12 rfl ?_
      refine x_iload hx hb hl 4 rfl dX0_lineUp_13 ?_
      refine x_goi (x_runVN (As := [.int (xJ i4_5)]) hx hb hml hown hT hE hW hl.1 (Or.inl (by omega)) (so_day0 h0 g hd _) rfl cf_X2_mustServe wq858 wq52 wn856 (c_X2_mustServeF l D g T h0 s_5 hW.2.1 d hd i4_5 ri4_5 (by omega) q5_0) ⟨rfl, rfl, ⟨by decide, by decide⟩, ⟨by decide, by decide⟩⟩ rfl rfl (Nat.le_of_ble_eq_true rfl) dX0_lineUp_15) hW (fun x2 s3 H locs rx2 hp4 hW => ?_)
      obtain ⟨es3, hp4⟩ := hp4
      subst es3
      have ghp4 := hp4
      have H15 := ghp4
      have Y15 : zYc s_5 d = (zYc s0 d) := zYc_f (fun o ho => hF_5 (d + o) (by omega))
      rw [Y15] at H15
      have W15 : x2 = 1 → zOw (zYc s0 d) i4_5 := fun h => (H15.resolve_right (fun q => by omega)).2
      have W15n : x2 = 0 → ¬ zOw (zYc s0 d) i4_5 := fun h => (H15.resolve_left (fun q => by omega)).2
      refine x_if_ne (tgt := 24) hx hb rx2 dX0_lineUp_18 (by decide) (fun c5 => ?_) (fun c5 => ?_)
      · skip
        refine x_aload_n hx hb hl 0 rfl dX0_lineUp_24 rfl ?_
        have W15 := W15 (by omega)
        refine x_aload_n hx hb hl 1 rfl dX0_lineUp_25 rfl ?_
        refine x_iload hx hb hl 4 rfl dX0_lineUp_26 ?_
        refine x_gov (x_runV (As := [.ref (h0 + d), .int (xJ i4_5)]) hx hb hml hown hT hE hW hl.1 (Or.inl (by decide)) (so_128 h0 g _) rfl cf_X0_tellFelon wq866 wq54 wq864 (c_X0_tellFelonF l D g T h0 s_5 hW.2.1 d hd i4_5 ri4_5 K9 (by omega) (by first | exact hK | exact fun t t1 t2 => by rw [hF_5 4 (by first | decide | omega)]; exact hK t t1 t2) (by first | exact hfr | exact fun i i1 i2 => by rw [hF_5 _ (by omega)]; exact hfr i i1 i2) (by have y := (zOw_c (by omega)).mp W15; rw [hF_5 _ (by omega)]; exact y.1) q5_0) ⟨rfl, rfl, ⟨by decide, by decide⟩, ⟨by decide, by decide⟩⟩ rfl rfl (Nat.le_of_ble_eq_true rfl) dX0_lineUp_28) hW (fun s7 H locs hp8 hW => ?_)
        obtain ⟨fs7, hp8⟩ := hp8
        have hF9 := hF_5.call fs7 (fun k h => by omega)
        have q10 : s7 1 1 = s0 1 1 := (congrFun (fs7 _ (by omega)) _).trans q5_1
        have q11 : s7 d 7 = s0 d 7 := (congrFun (fs7 _ (by omega)) _).trans q5_2
        have ghp8 := hp8.2
        have H28 := ghp8
        rw [show zYc s_5 d = (zYc s0 d) from zYc_f (fun o ho => by first | rfl | exact hF_5 (d + o) (by omega))] at H28
        have N28 : s7 134 = s_5 134 ∧ s7 135 = s_5 135 := ⟨fs7 134 (by first | decide | omega), fs7 135 (by first | decide | omega)⟩
        refine x_iload hx hb hl 4 rfl dX0_lineUp_31 ?_
        refine x_iload_n hx hb hl 2 rfl dX0_lineUp_33 rfl ?_
        have J55 : ∀ (t0_55 : Int) (s_55 : xS) (H : Heap) (locs : List Loc) (ls : Array Slot), (xR t0_55) → (xFr (fun k => k = 115 ∨ k = 116 ∨ k = 134 ∨ k = 135) s0 s_55) → (s_55 1 1 = s0 1 1) → (s_55 d 7 = s0 d 7) → (IC s_55) → (t0_55 = zrq K9 q9 (zYc s0 d) a 1000 i4_5) → (zOw (zYc s0 d) i4_5) → (s_55 134 = s_5 134 ∧ s_55 135 = s_5 135) → xW D g h0 s H locs s_55 → lv_has ls 7 [(0, .ref (h0 + 128)), (1, .ref (h0 + d)), (2, .int (xJ a)), (3, .int (xJ i3_5)), (4, .int (xJ i4_5))] → W p l e { frames := 3, cells := 0, slots := 0, locals := 73 } s m args below meth c H locs 0 0 Q (F0 m 55 ls [.int (xJ t0_55)]) := by
          intro t0_55 s_55 H locs ls rt0_55 hF_55 q55_0 q55_1 q55_2 v55_0 v55_1 v55_2 hW hl
          refine lv_istore (lv' := [(5, .int (xJ t0_55)), (0, .ref (h0 + 128)), (1, .ref (h0 + d)), (2, .int (xJ a)), (3, .int (xJ i3_5)), (4, .int (xJ i4_5))]) hx hb dX0_lineUp_55 hl (by decide) rfl (fun ls hl => ?_)
          refine x_iload_n hx hb hl 4 rfl dX0_lineUp_57 rfl ?_
          refine lv_istore (lv' := [(6, .int (xJ i3_5)), (5, .int (xJ t0_55)), (0, .ref (h0 + 128)), (1, .ref (h0 + d)), (2, .int (xJ a)), (3, .int (xJ i3_5)), (4, .int (xJ i4_5))]) hx hb dX0_lineUp_58 hl (by decide) rfl (fun ls hl => ?_)
          have L60 : ∀ (fu : Nat) (i6_60 : Int) (s_60 : xS) (H : Heap) (locs : List Loc) (ls : Array Slot), (xR i6_60) → (xFr (fun k => k = 115 ∨ k = 116 ∨ k = 134 ∨ k = 135) s0 s_60) → (s_60 1 1 = s0 1 1) → (s_60 d 7 = s0 d 7) → (IC s_60) → (0 ≤ i6_60 ∧ i6_60 ≤ i3_5) → (zIN (zrq K9 q9 (zYc s0 d) a 1000) i4_5 (zls (s_5 134) 0 (i3_5).toNat) (s_60 134) i3_5 i6_60) → (∀ k : Int, 0 ≤ k → k < i6_60 → s_60 135 k = zrq K9 q9 (zYc s0 d) a 1000 (s_60 134 k)) → (∀ k : Int, i6_60 < k → k ≤ i3_5 → s_60 135 k = zrq K9 q9 (zYc s0 d) a 1000 (s_60 134 k)) → (i6_60).toNat < fu → xW D g h0 s H locs s_60 → lv_has ls 7 [(0, .ref (h0 + 128)), (1, .ref (h0 + d)), (2, .int (xJ a)), (3, .int (xJ i3_5)), (4, .int (xJ i4_5)), (5, .int (xJ t0_55)), (6, .int (xJ i6_60))] → W p l e { frames := 3, cells := 0, slots := 0, locals := 73 } s m args below meth c H locs 0 0 Q (F0 m 60 ls []) := by
            intro fu
            induction fu with
            | zero => intro i6_60 s_60 H locs ls ri6_60 hF_60 q60_0 q60_1 q60_2 v60_0 v60_1 v60_2 v60_3 hm; exact absurd hm (Nat.not_lt_zero _)
            | succ fu ih60 =>
              intro i6_60 s_60 H locs ls ri6_60 hF_60 q60_0 q60_1 q60_2 v60_0 v60_1 v60_2 v60_3 hm hW hl
              have hm_60 := fun (_ : Unit) => hm
              clear hm
              refine x_iload hx hb hl 6 rfl dX0_lineUp_60 ?_
              refine x_if_le (tgt := 117) hx hb ri6_60 dX0_lineUp_62 (by decide) (fun c12 => ?_) (fun c12 => ?_)
              · skip
                refine x_aload_n hx hb hl 0 rfl dX0_lineUp_117 rfl ?_
                refine x_get (j := 4) (v := .ref (h0 + 134)) hx hb hown hT hE hW cls_X0 (Or.inl (by decide)) (so_128 h0 g _) (by decide) rfl wq361 dX0_lineUp_118 ?_
                refine x_iload hx hb hl 6 rfl dX0_lineUp_121 ?_
                refine x_iload hx hb hl 4 rfl dX0_lineUp_123 ?_
                refine x_iast hx hb hE hW (by decide) (fun σ => sa_134 h0 g σ) (by omega) (by decide) ri4_5 dX0_lineUp_125 (fun H locs s13 es13 hW => ?_)
                have q14 : s13 1 1 = s0 1 1 := (show s13 1 1 = s_60 1 1 from by rw [es13, xU_k _ _ _ (by first | decide | omega)]).trans q60_0
                have q15 : s13 d 7 = s0 d 7 := (show s13 d 7 = s_60 d 7 from by rw [es13, xU_k _ _ _ (by first | decide | omega)]).trans q60_1
                have q16 : IC s13 := by rw [es13]; exact IC_o (by decide) q60_2
                have hF17 := hF_60.put es13 (by omega)
                have E125 := es13
                refine x_aload_n hx hb hl 0 rfl dX0_lineUp_126 rfl ?_
                refine x_get (j := 5) (v := .ref (h0 + 135)) hx hb hown hT hE hW cls_X0 (Or.inl (by decide)) (so_128 h0 g _) (by decide) rfl wq362 dX0_lineUp_127 ?_
                refine x_iload hx hb hl 6 rfl dX0_lineUp_130 ?_
                refine x_iload hx hb hl 5 rfl dX0_lineUp_132 ?_
                refine x_iast hx hb hE hW (by decide) (fun σ => sa_135 h0 g σ) (by omega) (by decide) rt0_55 dX0_lineUp_134 (fun H locs s18 es18 hW => ?_)
                have q19 : s18 1 1 = s0 1 1 := (show s18 1 1 = s13 1 1 from by rw [es18, xU_k _ _ _ (by first | decide | omega)]).trans q14
                have q20 : s18 d 7 = s0 d 7 := (show s18 d 7 = s13 d 7 from by rw [es18, xU_k _ _ _ (by first | decide | omega)]).trans q15
                have q21 : IC s18 := by rw [es18]; exact IC_o (by decide) q16
                have hF22 := hF17.put es18 (by omega)
                have E134 := es18
                refine x_iinc (lv' := [(3, .int (xJ (i3_5 + 1))), (0, .ref (h0 + 128)), (1, .ref (h0 + d)), (2, .int (xJ a)), (4, .int (xJ i4_5)), (5, .int (xJ t0_55)), (6, .int (xJ i6_60))]) hx hb hl 3 rfl dX0_lineUp_135 (by decide) rfl (fun ls hl => ?_)
                refine x_iinc (lv' := [(4, .int (xJ (i4_5 + 1))), (3, .int (xJ (i3_5 + 1))), (0, .ref (h0 + 128)), (1, .ref (h0 + d)), (2, .int (xJ a)), (5, .int (xJ t0_55)), (6, .int (xJ i6_60))]) hx hb hl 4 rfl dX0_lineUp_138 (by decide) rfl (fun ls hl => ?_)
                refine lv_goto (tgt := 5) hx hb dX0_lineUp_141 (by decide) ?_
                exact ih5 (i3_5 + 1) (i4_5 + 1) s18 H locs ls (by omega) (by omega) hF22 q21 q19 q20 (by omega) (by omega) (by
                    rw [show (i4_5 + 1).toNat = i4_5.toNat + 1 from by omega]
                    first
                      | (rw [zlu_y (i := i4_5) (by omega) v55_1, ← v5_2]
                         exact v60_1.fin v60_0 (by first | exact Or.inl (by omega) | exact Or.inr (by rw [← v60_2 _ (by omega) (by omega), ← V73, ← v55_0]; omega)) (by rw [E134, xU_k _ _ _ (by first | decide | omega), E125, xU_xud]) rfl)
                      | (rw [zlu_n (i := i4_5) (by omega) W15n, fs18 134 (by first | decide | omega)]
                         exact v5_2)
                      | (rw [zlu_n (i := i4_5) (by omega) W15n]
                         exact v5_2)) (by
                    first
                      | exact v5_3
                      | (intro k k1 k2
                         rw [E134, xU_xud, xU_k _ _ _ (show 134 ≠ 135 from by decide), E125, xU_xud, xU_k _ _ _ (show 135 ≠ 134 from by decide)]
                         by_cases h : k = i6_60
                         · subst h; rw [xud_s, xud_s]; exact v55_0
                         · rw [xud_o _ _ h, xud_o _ _ h]
                           by_cases h2 : k < i6_60
                           · exact v60_2 k k1 h2
                           · exact v60_3 k (by omega) (by omega))) (by have hm := hm_5 (); omega) hW (lv_sub hl [2, 3, 4, 1, 0] rfl)
              refine x_aload_n hx hb hl 0 rfl dX0_lineUp_65 rfl ?_
              refine x_get (j := 5) (v := .ref (h0 + 135)) hx hb hown hT hE hW cls_X0 (Or.inl (by decide)) (so_128 h0 g _) (by decide) rfl wq362 dX0_lineUp_66 ?_
              refine x_iload hx hb hl 6 rfl dX0_lineUp_69 ?_
              refine x_iconst hx hb dX0_lineUp_71 ?_
              refine x_isub hx hb dX0_lineUp_72 ?_
              refine x_iald hx hb hE hW (Or.inl (by decide)) (sa_135 h0 g _) (by omega) (by decide) dX0_lineUp_73 ?_
              refine x_rd hW (fun x23 ex23 rx23 => ?_)
              have V73 : x23 = s_60 135 (i6_60 - 1) := ex23
              refine x_iload hx hb hl 5 rfl dX0_lineUp_74 ?_
              refine x_icmp_ge (tgt := 117) hx hb rx23 rt0_55 dX0_lineUp_76 (by decide) (fun c24 => ?_) (fun c24 => ?_)
              · skip
                refine x_aload_n hx hb hl 0 rfl dX0_lineUp_117 rfl ?_
                refine x_get (j := 4) (v := .ref (h0 + 134)) hx hb hown hT hE hW cls_X0 (Or.inl (by decide)) (so_128 h0 g _) (by decide) rfl wq361 dX0_lineUp_118 ?_
                refine x_iload hx hb hl 6 rfl dX0_lineUp_121 ?_
                refine x_iload hx hb hl 4 rfl dX0_lineUp_123 ?_
                refine x_iast hx hb hE hW (by decide) (fun σ => sa_134 h0 g σ) (by omega) (by decide) ri4_5 dX0_lineUp_125 (fun H locs s25 es25 hW => ?_)
                have q26 : s25 1 1 = s0 1 1 := (show s25 1 1 = s_60 1 1 from by rw [es25, xU_k _ _ _ (by first | decide | omega)]).trans q60_0
                have q27 : s25 d 7 = s0 d 7 := (show s25 d 7 = s_60 d 7 from by rw [es25, xU_k _ _ _ (by first | decide | omega)]).trans q60_1
                have q28 : IC s25 := by rw [es25]; exact IC_o (by decide) q60_2
                have hF29 := hF_60.put es25 (by omega)
                have E125 := es25
                refine x_aload_n hx hb hl 0 rfl dX0_lineUp_126 rfl ?_
                refine x_get (j := 5) (v := .ref (h0 + 135)) hx hb hown hT hE hW cls_X0 (Or.inl (by decide)) (so_128 h0 g _) (by decide) rfl wq362 dX0_lineUp_127 ?_
                refine x_iload hx hb hl 6 rfl dX0_lineUp_130 ?_
                refine x_iload hx hb hl 5 rfl dX0_lineUp_132 ?_
                refine x_iast hx hb hE hW (by decide) (fun σ => sa_135 h0 g σ) (by omega) (by decide) rt0_55 dX0_lineUp_134 (fun H locs s30 es30 hW => ?_)
                have q31 : s30 1 1 = s0 1 1 := (show s30 1 1 = s25 1 1 from by rw [es30, xU_k _ _ _ (by first | decide | omega)]).trans q26
                have q32 : s30 d 7 = s0 d 7 := (show s30 d 7 = s25 d 7 from by rw [es30, xU_k _ _ _ (by first | decide | omega)]).trans q27
                have q33 : IC s30 := by rw [es30]; exact IC_o (by decide) q28
                have hF34 := hF29.put es30 (by omega)
                have E134 := es30
                refine x_iinc (lv' := [(3, .int (xJ (i3_5 + 1))), (0, .ref (h0 + 128)), (1, .ref (h0 + d)), (2, .int (xJ a)), (4, .int (xJ i4_5)), (5, .int (xJ t0_55)), (6, .int (xJ i6_60))]) hx hb hl 3 rfl dX0_lineUp_135 (by decide) rfl (fun ls hl => ?_)
                refine x_iinc (lv' := [(4, .int (xJ (i4_5 + 1))), (3, .int (xJ (i3_5 + 1))), (0, .ref (h0 + 128)), (1, .ref (h0 + d)), (2, .int (xJ a)), (5, .int (xJ t0_55)), (6, .int (xJ i6_60))]) hx hb hl 4 rfl dX0_lineUp_138 (by decide) rfl (fun ls hl => ?_)
                refine lv_goto (tgt := 5) hx hb dX0_lineUp_141 (by decide) ?_
                exact ih5 (i3_5 + 1) (i4_5 + 1) s30 H locs ls (by omega) (by omega) hF34 q33 q31 q32 (by omega) (by omega) (by
                    rw [show (i4_5 + 1).toNat = i4_5.toNat + 1 from by omega]
                    first
                      | (rw [zlu_y (i := i4_5) (by omega) v55_1, ← v5_2]
                         exact v60_1.fin v60_0 (by first | exact Or.inl (by omega) | exact Or.inr (by rw [← v60_2 _ (by omega) (by omega), ← V73, ← v55_0]; omega)) (by rw [E134, xU_k _ _ _ (by first | decide | omega), E125, xU_xud]) rfl)
                      | (rw [zlu_n (i := i4_5) (by omega) W15n, fs30 134 (by first | decide | omega)]
                         exact v5_2)
                      | (rw [zlu_n (i := i4_5) (by omega) W15n]
                         exact v5_2)) (by
                    first
                      | exact v5_3
                      | (intro k k1 k2
                         rw [E134, xU_xud, xU_k _ _ _ (show 134 ≠ 135 from by decide), E125, xU_xud, xU_k _ _ _ (show 135 ≠ 134 from by decide)]
                         by_cases h : k = i6_60
                         · subst h; rw [xud_s, xud_s]; exact v55_0
                         · rw [xud_o _ _ h, xud_o _ _ h]
                           by_cases h2 : k < i6_60
                           · exact v60_2 k k1 h2
                           · exact v60_3 k (by omega) (by omega))) (by have hm := hm_5 (); omega) hW (lv_sub hl [2, 3, 4, 1, 0] rfl)
              refine x_aload_n hx hb hl 0 rfl dX0_lineUp_79 rfl ?_
              refine x_get (j := 4) (v := .ref (h0 + 134)) hx hb hown hT hE hW cls_X0 (Or.inl (by decide)) (so_128 h0 g _) (by decide) rfl wq361 dX0_lineUp_80 ?_
              refine x_iload hx hb hl 6 rfl dX0_lineUp_83 ?_
              refine x_aload_n hx hb hl 0 rfl dX0_lineUp_85 rfl ?_
              refine x_get (j := 4) (v := .ref (h0 + 134)) hx hb hown hT hE hW cls_X0 (Or.inl (by decide)) (so_128 h0 g _) (by decide) rfl wq361 dX0_lineUp_86 ?_
              refine x_iload hx hb hl 6 rfl dX0_lineUp_89 ?_
              refine x_iconst hx hb dX0_lineUp_91 ?_
              refine x_isub hx hb dX0_lineUp_92 ?_
              refine x_iald hx hb hE hW (Or.inl (by decide)) (sa_134 h0 g _) (by omega) (by decide) dX0_lineUp_93 ?_
              refine x_rd hW (fun x35 ex35 rx35 => ?_)
              have V93 : x35 = s_60 134 (i6_60 - 1) := ex35
              refine x_iast hx hb hE hW (by decide) (fun σ => sa_134 h0 g σ) (by omega) (by decide) rx35 dX0_lineUp_94 (fun H locs s36 es36 hW => ?_)
              have q37 : s36 1 1 = s0 1 1 := (show s36 1 1 = s_60 1 1 from by rw [es36, xU_k _ _ _ (by first | decide | omega)]).trans q60_0
              have q38 : s36 d 7 = s0 d 7 := (show s36 d 7 = s_60 d 7 from by rw [es36, xU_k _ _ _ (by first | decide | omega)]).trans q60_1
              have q39 : IC s36 := by rw [es36]; exact IC_o (by decide) q60_2
              have hF40 := hF_60.put es36 (by omega)
              have E94 := es36
              refine x_aload_n hx hb hl 0 rfl dX0_lineUp_95 rfl ?_
              refine x_get (j := 5) (v := .ref (h0 + 135)) hx hb hown hT hE hW cls_X0 (Or.inl (by decide)) (so_128 h0 g _) (by decide) rfl wq362 dX0_lineUp_96 ?_
              refine x_iload hx hb hl 6 rfl dX0_lineUp_99 ?_
              refine x_aload_n hx hb hl 0 rfl dX0_lineUp_101 rfl ?_
              refine x_get (j := 5) (v := .ref (h0 + 135)) hx hb hown hT hE hW cls_X0 (Or.inl (by decide)) (so_128 h0 g _) (by decide) rfl wq362 dX0_lineUp_102 ?_
              refine x_iload hx hb hl 6 rfl dX0_lineUp_105 ?_
              refine x_iconst hx hb dX0_lineUp_107 ?_
              refine x_isub hx hb dX0_lineUp_108 ?_
              refine x_iald hx hb hE hW (Or.inl (by decide)) (sa_135 h0 g _) (by omega) (by decide) dX0_lineUp_109 ?_
              refine x_rd hW (fun x41 ex41 rx41 => ?_)
              have V109 : x41 = s_60 135 (i6_60 - 1) := by rw [ex41, E94, xU_k _ _ _ (by first | decide | omega)]
              refine x_iast hx hb hE hW (by decide) (fun σ => sa_135 h0 g σ) (by omega) (by decide) rx41 dX0_lineUp_110 (fun H locs s42 es42 hW => ?_)
              have q43 : s42 1 1 = s0 1 1 := (show s42 1 1 = s36 1 1 from by rw [es42, xU_k _ _ _ (by first | decide | omega)]).trans q37
              have q44 : s42 d 7 = s0 d 7 := (show s42 d 7 = s36 d 7 from by rw [es42, xU_k _ _ _ (by first | decide | omega)]).trans q38
              have q45 : IC s42 := by rw [es42]; exact IC_o (by decide) q39
              have hF46 := hF40.put es42 (by omega)
              have E110 := es42
              refine x_iinc (lv' := [(6, .int (xJ (i6_60 + (-1)))), (0, .ref (h0 + 128)), (1, .ref (h0 + d)), (2, .int (xJ a)), (3, .int (xJ i3_5)), (4, .int (xJ i4_5)), (5, .int (xJ t0_55))]) hx hb hl 6 rfl dX0_lineUp_111 (by decide) rfl (fun ls hl => ?_)
              refine lv_goto (tgt := 60) hx hb dX0_lineUp_114 (by decide) ?_
              exact ih60 (i6_60 + (-1)) s42 H locs ls (by omega) hF46 q43 q44 q45 (by omega) (v60_1.step (by omega) (by rw [← v60_2 _ (by omega) (by omega), ← V73, ← v55_0]; omega) (by rw [E110, xU_k _ _ _ (by first | decide | omega), E94, xU_xud, V93]) (by omega)) (fun k k1 k2 => by
                  rw [E110, xU_xud, xU_k _ _ _ (show 134 ≠ 135 from by decide), E94, xU_xud, xU_k _ _ _ (show 135 ≠ 134 from by decide), xud_o _ _ (by omega), xud_o _ _ (by omega)]
                  exact v60_2 k k1 (by omega)) (fun k k1 k2 => by
                  rw [E110, xU_xud, xU_k _ _ _ (show 134 ≠ 135 from by decide), E94, xU_xud, xU_k _ _ _ (show 135 ≠ 134 from by decide)]
                  by_cases h : k = i6_60
                  · subst h
                    rw [xud_s, xud_s, V93, V109]
                    exact v60_2 _ (by omega) (by omega)
                  · rw [xud_o _ _ h, xud_o _ _ h]
                    exact v60_3 k (by omega) (by omega)) (by have hm := hm_60 (); omega) hW (lv_sub hl [1, 2, 3, 4, 5, 6, 0] rfl)
          exact L60 ((i3_5 : Int).toNat + 1) i3_5 s_55 H locs ls ri3_5 hF_55 q55_0 q55_1 q55_2 (by omega) (zIN.new (by rw [v55_2.1]) rfl) (fun k k1 k2 => by rw [v55_2.1, v55_2.2]; exact v5_3 k k1 k2) (fun k k1 k2 => absurd k1 (by omega)) (Nat.lt_succ_self _) hW (lv_sub hl [2, 3, 4, 5, 6, 1, 0] rfl)
        refine x_icmp_ne (tgt := 43) hx hb ri4_5 ra dX0_lineUp_34 (by decide) (fun c47 => ?_) (fun c47 => ?_)
        · skip
          refine x_aload_n hx hb hl 0 rfl dX0_lineUp_43 rfl ?_
          refine x_get (j := 1) (v := .ref (h0 + 109)) hx hb hown hT hE hW cls_X0 (Or.inl (by decide)) (so_128 h0 g _) (by decide) rfl wq354 dX0_lineUp_44 ?_
          refine x_bipush hx hb dX0_lineUp_47 (by decide) ?_
          refine x_sipush hx hb dX0_lineUp_49 (by decide) ?_
          refine x_goi (x_runVN (As := [.int (xJ 111), .int (xJ 999)]) hx hb hml hown hT hE hW hl.1 (Or.inl (by decide)) (so_109 h0 g _) rfl cf_X4_worthOf wq802 wq42 wn800 (c_X4_worthOfF l D g T h0 s7 hW.2.1 111 (by decide) 999 (by decide) q9 (zff K9 (zYc s0 d) i4_5) (hok) (by first | exact hlc | exact hlc.f (fun k hk => hF9 k (by omega))) (H28) (by decide) (by decide) hp8.1.1) ⟨rfl, rfl, ⟨by decide, by decide⟩, ⟨by decide, by decide⟩⟩ rfl rfl (Nat.le_of_ble_eq_true rfl) dX0_lineUp_52) hW (fun x48 s49 H locs rx48 hp50 hW => ?_)
          obtain ⟨fs49, hp50⟩ := hp50
          have hF51 := hF9.call fs49 (fun k h => by omega)
          have q52 : s49 1 1 = s0 1 1 := (congrFun (fs49 _ (by omega)) _).trans q10
          have q53 : s49 d 7 = s0 d 7 := (congrFun (fs49 _ (by omega)) _).trans q11
          have ghp50 := hp50.2
          have H52 := ghp50
          exact J55 x48 s49 H locs ls rx48 hF51 q52 q53 hp50.1.1 (by unfold zrq; first | (rw [if_pos (by omega)]) | (rw [if_neg (by omega)]; exact H52)) (W15) (by first | exact ⟨N28.1, N28.2⟩ | (rw [fs49 134 (by first | decide | omega), fs49 135 (by first | decide | omega)]; exact N28)) hW (lv_sub hl [0, 1, 2, 3, 4] rfl)
        refine x_sipush hx hb dX0_lineUp_37 (by decide) ?_
        refine lv_goto (tgt := 55) hx hb dX0_lineUp_40 (by decide) ?_
        exact J55 1000 s7 H locs ls (by decide) hF9 q10 q11 hp8.1.1 (by unfold zrq; first | (rw [if_pos (by omega)]) | (rw [if_neg (by omega)]; exact H52)) (W15) (by first | exact ⟨N28.1, N28.2⟩ | (rw [fs7 134 (by first | decide | omega), fs7 135 (by first | decide | omega)]; exact N28)) hW (lv_sub hl [0, 1, 2, 3, 4] rfl)
      refine lv_goto (tgt := 138) hx hb dX0_lineUp_21 (by decide) ?_
      have W15n := W15n (by omega)
      refine x_iinc (lv' := [(4, .int (xJ (i4_5 + 1))), (0, .ref (h0 + 128)), (1, .ref (h0 + d)), (2, .int (xJ a)), (3, .int (xJ i3_5))]) hx hb hl 4 rfl dX0_lineUp_138 (by decide) rfl (fun ls hl => ?_)
      refine lv_goto (tgt := 5) hx hb dX0_lineUp_141 (by decide) ?_
      exact ih5 i3_5 (i4_5 + 1) s_5 H locs ls ri3_5 (by omega) hF_5 q5_0 q5_1 q5_2 (by omega) (by omega) (by
            rw [show (i4_5 + 1).toNat = i4_5.toNat + 1 from by omega]
            first
              | (rw [zlu_y (i := i4_5) (by omega) v55_1, ← v5_2]
                 exact v60_1.fin v60_0 (by first | exact Or.inl (by omega) | exact Or.inr (by rw [← v60_2 _ (by omega) (by omega), ← V73, ← v55_0]; omega)) (by rw [E134, xU_k _ _ _ (by first | decide | omega), E125, xU_xud]) rfl)
              | (rw [zlu_n (i := i4_5) (by omega) W15n, fs_5 134 (by omega)]
                 exact v5_2)
              | (rw [zlu_n (i := i4_5) (by omega) W15n]
                 exact v5_2)) (by
            first
              | exact v5_3
              | (intro k k1 k2
                 rw [E134, xU_xud, xU_k _ _ _ (show 134 ≠ 135 from by decide), E125, xU_xud, xU_k _ _ _ (show 135 ≠ 134 from by decide)]
                 by_cases h : k = i6_60
                 · subst h; rw [xud_s, xud_s]; exact v55_0
                 · rw [xud_o _ _ h, xud_o _ _ h]
                   by_cases h2 : k < i6_60
                   · exact v60_2 k k1 h2
                   · exact v60_3 k (by omega) (by omega))) (by have hm := hm_5 (); omega) hW (lv_sub hl [1, 2, 3, 4, 0] rfl)
  exact L5 ((10 - 0 : Int).toNat + 1) 0 0 s0 H locs ls (by decide) (by decide) hF p0 k1_1 kd_7 (by omega) (by omega) (rfl) (fun k k1 k2 => absurd k2 (by omega)) (Nat.lt_succ_self _) hW (lv_sub hl [2, 3, 4, 1, 0] rfl)
set_option maxHeartbeats 4000000 in
set_option maxRecDepth 100000 in
theorem c_X0_findShadowF (l : Launch) (D : va_G) (g : xG) (T : Nat × Nat × Nat) (h0 : Nat) (s0 : xS) (hσ : xRR s0) (d : Nat) (hd : xDay d) (f : Int) (rf : xR f) (q : Int) (rq : xR q) (K9 : Int → Int) (hf : 0 ≤ f ∧ f < 10) (hK : ∀ t : Int, 0 ≤ t → t < 100 → s0 4 t = K9 t) (hfr : ∀ f : Int, 0 ≤ f → f < 10 → s0 (d + 6) f = -1 ∨ (0 ≤ s0 (d + 6) f ∧ s0 (d + 6) f < 100)) (ht0 : s0 (d + 6) f ≠ -1) (hq0 : 0 ≤ q ∧ q ≤ 3) (hLn : ∀ t : Int, 0 ≤ t → t < 100 → 0 ≤ s0 131 t) (p0 : IC s0) (p1 : IS s0) (p2 : IQ s0) : Met l yX0_findShadow (xws yX0_findShadow cX0_findShadow 9 (some .int)) { frames := 3, cells := 0, slots := 0, locals := 73 } (xP [.ref (h0 + 128), .ref (h0 + d), .int (xJ f), .int (xJ q)] D g T h0 s0) (xQi D g h0 (fun r τ => xFr (fun k => (7 ≤ k ∧ k < 107) ∨ k = 107 ∨ k = d) s0 τ ∧ (((IC τ) ∧ (IS τ) ∧ (IQ τ) ∧ (τ d 7 = s0 d 7) ∧ True) ∧ (r = zbk K9 (s0 131) (s0 133) (s0 (d + 6) f) q.toNat 100 ∧ τ d 7 = s0 d 7 ∧ zYc τ d = (if r = -1 then (zYc s0 d) else xud (zYc s0 d) 48 (zwp (s0 d 11 + zds K9 (s0 (d + 6) f) q.toNat r))))))) 0 0 (xA h0) := by
  refine x_met hσ (by decide) (Nat.le_of_ble_eq_true rfl) ?_
  intro p e s m args below meth c hx hb hr hml hown hT hlk hnm hE hW ls hl
  have hl : lv_has ls 9 [(0, .ref (h0 + 128)), (1, .ref (h0 + d)), (2, .int (xJ f)), (3, .int (xJ q))] := hl
  obtain ⟨Q, eQ⟩ : ∃ Q, Q = MQ below (xQi D g h0 (fun r τ => xFr (fun k => (7 ≤ k ∧ k < 107) ∨ k = 107 ∨ k = d) s0 τ ∧ (((IC τ) ∧ (IS τ) ∧ (IQ τ) ∧ (τ d 7 = s0 d 7) ∧ True) ∧ (r = zbk K9 (s0 131) (s0 133) (s0 (d + 6) f) q.toNat 100 ∧ τ d 7 = s0 d 7 ∧ zYc τ d = (if r = -1 then (zYc s0 d) else xud (zYc s0 d) 48 (zwp (s0 d 11 + zds K9 (s0 (d + 6) f) q.toNat r))))))) args s 0 0 (xA h0) := ⟨_, rfl⟩
  rw [← eQ]
  generalize hHe : ([] : List Loc) = locs at hW ⊢
  obtain ⟨H, eH⟩ : ∃ H, H = s.heap := ⟨_, rfl⟩
  rw [← eH] at hW ⊢
  have hF : xFr (fun k => (7 ≤ k ∧ k < 107) ∨ k = 107 ∨ k = d) s0 s0 := xFr.rf
  have hbd : (136 ≤ d ∧ d < 209) ∧ (d ≤ 146 ∨ 158 ≤ d) := by unfold xDay at hd; omega
  have k1_1 : s0 1 1 = s0 1 1 := rfl
  have kd_7 : s0 d 7 = s0 d 7 := rfl
  have k130_3 : s0 130 3 = s0 130 3 := rfl
  have hr9 := hfr f hf.1 hf.2
  refine x_aload_n hx hb hl 1 rfl dX0_findShadow_0 rfl ?_
  refine x_iload_n hx hb hl 2 rfl dX0_findShadow_1 rfl ?_
  refine x_goi (x_runVN (As := [.int (xJ f)]) hx hb hml hown hT hE hW hl.1 (Or.inl (by omega)) (so_day0 h0 g hd _) rfl cf_X2_hasFelon wq862 wq53 wn868 (c_X2_hasFelonF l D g T h0 s0 hW.2.1 d hd f rf p0) ⟨rfl, rfl, ⟨by decide, by decide⟩, ⟨by decide, by decide⟩⟩ rfl rfl (Nat.le_of_ble_eq_true rfl) dX0_findShadow_2) hW (fun x1 s2 H locs rx1 hp3 hW => ?_)
  obtain ⟨es2, hp3⟩ := hp3
  subst es2
  have ghp3 := hp3
  refine x_if_ne (tgt := 10) hx hb rx1 dX0_findShadow_5 (by decide) (fun c4 => ?_) (fun c4 => False.elim (by omega))
  refine x_iload_n hx hb hl 3 rfl dX0_findShadow_10 rfl ?_
  refine x_iconst hx hb dX0_findShadow_11 ?_
  refine x_iadd hx hb dX0_findShadow_12 ?_
  refine x_nm (fun x5 ex5 => ?_)
  refine lv_istore (lv' := [(4, .int (xJ x5)), (0, .ref (h0 + 128)), (1, .ref (h0 + d)), (2, .int (xJ f)), (3, .int (xJ q))]) hx hb dX0_findShadow_13 hl (by decide) rfl (fun ls hl => ?_)
  refine x_iconst hx hb dX0_findShadow_15 ?_
  refine lv_istore (lv' := [(5, .int (xJ (-1))), (4, .int (xJ x5)), (0, .ref (h0 + 128)), (1, .ref (h0 + d)), (2, .int (xJ f)), (3, .int (xJ q))]) hx hb dX0_findShadow_16 hl (by decide) rfl (fun ls hl => ?_)
  refine x_iconst hx hb dX0_findShadow_18 ?_
  refine lv_istore (lv' := [(6, .int (xJ 0)), (5, .int (xJ (-1))), (4, .int (xJ x5)), (0, .ref (h0 + 128)), (1, .ref (h0 + d)), (2, .int (xJ f)), (3, .int (xJ q))]) hx hb dX0_findShadow_19 hl (by decide) rfl (fun ls hl => ?_)
  have L21 : ∀ (fu : Nat) (i4_21 : Int) (i5_21 : Int) (i6_21 : Int) (s_21 : xS) (H : Heap) (locs : List Loc) (ls : Array Slot), (xR i4_21) → (xR i5_21) → (xR i6_21) → (xFr (fun k => (7 ≤ k ∧ k < 107) ∨ k = 107 ∨ k = d) s0 s_21) → (IC s_21) → (IS s_21) → (IQ s_21) → (s_21 1 1 = s0 1 1) → (s_21 d 7 = s0 d 7) → (s_21 130 3 = s0 130 3) → (0 ≤ i6_21 ∧ i6_21 ≤ s0 130 3) → (zfb (zsb K9 (s0 (d + 6) f)) (s0 131) (s0 133) (s0 132) q i4_21 i5_21 i6_21) → (s_21 d = s0 d) → (101 - i6_21).toNat < fu → xW D g h0 s H locs s_21 → lv_has ls 9 [(0, .ref (h0 + 128)), (1, .ref (h0 + d)), (2, .int (xJ f)), (4, .int (xJ i4_21)), (5, .int (xJ i5_21)), (6, .int (xJ i6_21))] → W p l e { frames := 3, cells := 0, slots := 0, locals := 73 } s m args below meth c H locs 0 0 Q (F0 m 21 ls []) := by
    intro fu
    induction fu with
    | zero => intro i4_21 i5_21 i6_21 s_21 H locs ls ri4_21 ri5_21 ri6_21 hF_21 q21_0 q21_1 q21_2 q21_3 q21_4 q21_5 v21_0 v21_1 v21_2 hm; exact absurd hm (Nat.not_lt_zero _)
    | succ fu ih21 =>
      intro i4_21 i5_21 i6_21 s_21 H locs ls ri4_21 ri5_21 ri6_21 hF_21 q21_0 q21_1 q21_2 q21_3 q21_4 q21_5 v21_0 v21_1 v21_2 hm hW hl
      have hm_21 := fun (_ : Unit) => hm
      clear hm
      refine x_iload hx hb hl 5 rfl dX0_findShadow_21 ?_
      refine x_aload_n hx hb hl 0 rfl dX0_findShadow_23 rfl ?_
      refine x_get (j := 3) (v := .ref (h0 + 130)) hx hb hown hT hE hW cls_X0 (Or.inl (by decide)) (so_128 h0 g _) (by decide) rfl wq357 dX0_findShadow_24 ?_
      refine x_getN (j := 3) (v := .int (xJ (s_21 130 3))) hx hb hown hT hE hW cls_X7 (Or.inl (by decide)) (so_130 h0 g _) (by decide) rfl wn340 dX0_findShadow_27 ?_
      refine x_rd hW (fun x6 ex6 rx6 => ?_)
      have bx6 : 0 ≤ x6 ∧ x6 ≤ 100 := by rw [ex6]; exact IC.z q21_0
      have fx6 : x6 = s0 130 3 := ex6.trans q21_5
      refine x_icmp_ge (tgt := 128) hx hb ri6_21 rx6 dX0_findShadow_30 (by decide) (fun c7 => ?_) (fun c7 => ?_)
      · skip
        refine x_iload hx hb hl 4 rfl dX0_findShadow_128 ?_
        refine x_iconst hx hb dX0_findShadow_130 ?_
        have Z130 := v21_1.fin (a := s0 (d + 6) f) (K := K9) p1.1 (by omega) hLn hq0 (fun t t1 t2 => if_pos ⟨by omega, by omega, t1, t2⟩)
        refine x_icmp_eq (tgt := 145) hx hb ri5_21 (by decide) dX0_findShadow_131 (by decide) (fun c8 => ?_) (fun c8 => ?_)
        · skip
          refine x_iload hx hb hl 4 rfl dX0_findShadow_145 ?_
          rw [eQ]
          exact x_iret hx hb hr hlk hW ri5_21 ⟨hF_21, ⟨q21_0, q21_1, q21_2, q21_4, trivial⟩, by
              first
                | (rw [if_pos (by omega)]
                   exact ⟨Z130.1, by rw [v21_2], zYc_f0 v21_2 (fun o ho => hF_21 (d + o) (by omega))⟩)
                | (rw [if_neg (by omega)]
                   refine ⟨Z130.1, by rw [E142, xU_j _ _ (by decide), v21_2], ?_⟩
                   rw [E142, zYc_u48, ← Z130.2 (by omega), zYc_f0 v21_2 (fun o ho => hF_21 (d + o) (by omega)), W141, V137])⟩ dX0_findShadow_147
        refine x_aload_n hx hb hl 1 rfl dX0_findShadow_134 rfl ?_
        refine lv_dup hx hb dX0_findShadow_135 rfl ?_
        refine x_getN (j := 11) (v := .int (xJ (s_21 d 11))) hx hb hown hT hE hW cls_X2 (Or.inl (by omega)) (so_day0 h0 g hd _) (by decide) rfl wn414 dX0_findShadow_136 ?_
        refine x_rd hW (fun x9 ex9 rx9 => ?_)
        have V137 : x9 = s0 d 11 := by rw [ex9, v21_2]
        refine x_iload hx hb hl 3 rfl dX0_findShadow_139 ?_
        refine x_iadd hx hb dX0_findShadow_141 ?_
        refine x_wv (fun x10 ex10 rx10 => ?_)
        have W141 := ex10
        refine x_putN (j := 11) hx hb hown hT hE hW cls_X2 (by omega) (fun σ => so_day0 h0 g hd σ) (by decide) (st_X2_11 h0 s_21 d x10) (ln_X2_11 h0 _ _) wn414 rfl rfl rfl rx10 dX0_findShadow_142 (fun H locs s11 es11 hW => ?_)
        have q12 : IC s11 := by rw [es11]; exact IC_d hd q21_0 (by omega)
        have q13 : IS s11 := by rw [es11]; exact IS_o (by unfold suIS; first | decide | omega) q21_1
        have q14 : IQ s11 := by rw [es11]; exact IQ_o (by unfold suIQ; first | decide | omega) q21_2
        have q15 : s11 1 1 = s0 1 1 := (show s11 1 1 = s_21 1 1 from by rw [es11, xU_k _ _ _ (by first | decide | omega)]).trans q21_3
        have q16 : s11 d 7 = s0 d 7 := (show s11 d 7 = s_21 d 7 from by rw [es11, xU_j _ _ (by decide)]).trans q21_4
        have q17 : s11 130 3 = s0 130 3 := (show s11 130 3 = s_21 130 3 from by rw [es11, xU_k _ _ _ (by first | decide | omega)]).trans q21_5
        have hF18 := hF_21.put es11 (by omega)
        have E142 := es11
        refine x_iload hx hb hl 4 rfl dX0_findShadow_145 ?_
        rw [eQ]
        exact x_iret hx hb hr hlk hW ri5_21 ⟨hF18, ⟨q12, q13, q14, q16, trivial⟩, by
            first
              | (rw [if_pos (by omega)]
                 exact ⟨Z130.1, by rw [v21_2], zYc_f0 v21_2 (fun o ho => hF18 (d + o) (by omega))⟩)
              | (rw [if_neg (by omega)]
                 refine ⟨Z130.1, by rw [E142, xU_j _ _ (by decide), v21_2], ?_⟩
                 rw [E142, zYc_u48, ← Z130.2 (by omega), zYc_f0 v21_2 (fun o ho => hF_21 (d + o) (by omega)), W141, V137])⟩ dX0_findShadow_147
      refine x_iload hx hb hl 5 rfl dX0_findShadow_33 ?_
      refine x_bipush hx hb dX0_findShadow_35 (by decide) ?_
      refine x_icmp_ge (tgt := 128) hx hb ri6_21 (by decide) dX0_findShadow_37 (by decide) (fun c19 => False.elim (by have := p1.1.1; omega)) (fun c19 => ?_)
      refine x_aload_n hx hb hl 0 rfl dX0_findShadow_40 rfl ?_
      refine x_get (j := 3) (v := .ref (h0 + 130)) hx hb hown hT hE hW cls_X0 (Or.inl (by decide)) (so_128 h0 g _) (by decide) rfl wq357 dX0_findShadow_41 ?_
      refine x_getN (j := 1) (v := .ref (h0 + 132)) hx hb hown hT hE hW cls_X7 (Or.inl (by decide)) (so_130 h0 g _) (by decide) rfl wn334 dX0_findShadow_44 ?_
      refine x_iload hx hb hl 5 rfl dX0_findShadow_47 ?_
      refine x_iald hx hb hE hW (Or.inl (by decide)) (sa_132 h0 g _) (by omega) (by decide) dX0_findShadow_49 ?_
      refine x_rd hW (fun x20 ex20 rx20 => ?_)
      have V50 : x20 = s0 132 i6_21 := by rw [ex20, hF_21 132 (by first | decide | omega)]
      have B50 := p1.1.2.1 i6_21 (by omega) (by omega)
      rw [← V50] at B50
      refine lv_istore (lv' := [(7, .int (xJ x20)), (0, .ref (h0 + 128)), (1, .ref (h0 + d)), (2, .int (xJ f)), (4, .int (xJ i4_21)), (5, .int (xJ i5_21)), (6, .int (xJ i6_21))]) hx hb dX0_findShadow_50 hl (by decide) rfl (fun ls hl => ?_)
      refine x_iload hx hb hl 0 rfl dX0_findShadow_52 ?_
      refine x_goi (x_runSN (As := [.int (xJ x20)]) hx hb hml hown hT hE hW hl.1 cf_X6_isSpot wq831 wn885 (c_X6_isSpot l D g T h0 s_21 hW.2.1 x20 rx20) ⟨rfl, rfl, ⟨by decide, by decide⟩, ⟨by decide, by decide⟩⟩ rfl rfl (Nat.le_of_ble_eq_true rfl) dX0_findShadow_54) hW (fun x21 s22 H locs rx21 hp23 hW => ?_)
      obtain ⟨es22, hp23⟩ := hp23
      subst es22
      have ghp23 := hp23
      refine x_if_eq (tgt := 122) hx hb rx21 dX0_findShadow_57 (by decide) (fun c24 => False.elim (by omega)) (fun c24 => ?_)
      refine x_aload_n hx hb hl 1 rfl dX0_findShadow_60 rfl ?_
      refine x_get (j := 3) (v := .ref (h0 + 130)) hx hb hown hT hE hW cls_X0 (Or.inl (by decide)) (so_128 h0 g _) (by decide) rfl wq357 dX0_findShadow_61 ?_
      refine x_getN (j := 2) (v := .ref (h0 + 133)) hx hb hown hT hE hW cls_X7 (Or.inl (by decide)) (so_130 h0 g _) (by decide) rfl wn336 dX0_findShadow_64 ?_
      refine x_iload hx hb hl 0 rfl dX0_findShadow_67 ?_
      refine x_zald hx hb hE hW (Or.inl (by decide)) (sa_133 h0 g _) (by omega) (by decide) dX0_findShadow_69 ?_
      refine x_rd hW (fun x25 ex25 rx25 => ?_)
      have V69 : x25 = s0 133 x20 := by rw [ex25, hF_21 133 (by first | decide | omega)]
      refine x_if_eq (tgt := 76) hx hb rx25 dX0_findShadow_70 (by decide) (fun c26 => ?_) (fun c26 => ?_)
      · skip
        refine x_aload_n hx hb hl 1 rfl dX0_findShadow_76 rfl ?_
        refine x_get (j := 0) (v := .ref (h0 + 3)) hx hb hown hT hE hW cls_X0 (Or.inl (by decide)) (so_128 h0 g _) (by decide) rfl wq351 dX0_findShadow_77 ?_
        refine x_aload_n hx hb hl 2 rfl dX0_findShadow_80 rfl ?_
        refine x_getN (j := 3) (v := .ref (h0 + (d + 6))) hx hb hown hT hE hW cls_X2 (Or.inl (by omega)) (so_day0 h0 g hd _) (by decide) rfl wn390 dX0_findShadow_81 ?_
        refine x_iload_n hx hb hl 3 rfl dX0_findShadow_84 rfl ?_
        refine x_iald hx hb hE hW (Or.inl (by omega)) (sa_day6 h0 g hd _) (by omega) (by decide) dX0_findShadow_85 ?_
        refine x_rd hW (fun x27 ex27 rx27 => ?_)
        have V85 : x27 = s0 (d + 6) f := by rw [ex27, hF_21 (d + 6) (by omega)]
        refine x_iload hx hb hl 0 rfl dX0_findShadow_86 ?_
        refine x_goi (x_runVN (As := [.int (xJ x27), .int (xJ x20)]) hx hb hml hown hT hE hW hl.1 (Or.inl (by decide)) (so_3 h0 g _) rfl cf_X6_stepsBetween wq888 wq59 wn886 (c_X6_stepsBetweenF l D g T h0 s_21 hW.2.1 x27 rx27 x20 rx20 q21_0 q21_2) ⟨rfl, rfl, ⟨by decide, by decide⟩, ⟨by decide, by decide⟩⟩ rfl rfl (Nat.le_of_ble_eq_true rfl) dX0_findShadow_88) hW (fun x28 s29 H locs rx28 hp30 hW => ?_)
        obtain ⟨fs29, hp30⟩ := hp30
        have hF31 := hF_21.call fs29 (fun k h => by omega)
        have q32 : IS s29 := IS_f (fun k hk => fs29 k (by unfold suIS at hk; omega)) q21_1
        have q33 : s29 1 1 = s0 1 1 := (congrFun (fs29 _ (by omega)) _).trans q21_3
        have q34 : s29 d 7 = s0 d 7 := (congrFun (fs29 _ (by omega)) _).trans q21_4
        have q35 : s29 130 3 = s0 130 3 := (congrFun (fs29 _ (by omega)) _).trans q21_5
        have ghp30 := hp30.2
        have V88 : x28 = zsb K9 (s0 (d + 6) f) x20 := by
          have e := ghp30
          rw [V85] at e
          exact e.trans (zsb_f (fun t t1 t2 => by rw [show s_21 4 = s0 4 from by first | rfl | exact hF_21 4 (by first | decide | omega)]; exact hK t t1 t2))
        refine lv_istore (lv' := [(8, .int (xJ x28)), (7, .int (xJ x20)), (0, .ref (h0 + 128)), (1, .ref (h0 + d)), (2, .int (xJ f)), (4, .int (xJ i4_21)), (5, .int (xJ i5_21)), (6, .int (xJ i6_21))]) hx hb dX0_findShadow_91 hl (by decide) rfl (fun ls hl => ?_)
        refine x_iload hx hb hl 0 rfl dX0_findShadow_93 ?_
        refine x_iload hx hb hl 5 rfl dX0_findShadow_95 ?_
        refine x_icmp_lt (tgt := 114) hx hb rx28 ri4_21 dX0_findShadow_97 (by decide) (fun c36 => ?_) (fun c36 => ?_)
        · skip
          refine x_iload hx hb hl 0 rfl dX0_findShadow_114 ?_
          refine lv_istore (lv' := [(4, .int (xJ x28)), (8, .int (xJ x28)), (7, .int (xJ x20)), (0, .ref (h0 + 128)), (1, .ref (h0 + d)), (2, .int (xJ f)), (5, .int (xJ i5_21)), (6, .int (xJ i6_21))]) hx hb dX0_findShadow_116 hl (by decide) rfl (fun ls hl => ?_)
          refine x_iload hx hb hl 2 rfl dX0_findShadow_118 ?_
          refine lv_istore (lv' := [(5, .int (xJ x20)), (4, .int (xJ x28)), (8, .int (xJ x28)), (7, .int (xJ x20)), (0, .ref (h0 + 128)), (1, .ref (h0 + d)), (2, .int (xJ f)), (6, .int (xJ i6_21))]) hx hb dX0_findShadow_120 hl (by decide) rfl (fun ls hl => ?_)
          refine x_iinc (lv' := [(6, .int (xJ (i6_21 + 1))), (5, .int (xJ x20)), (4, .int (xJ x28)), (8, .int (xJ x28)), (7, .int (xJ x20)), (0, .ref (h0 + 128)), (1, .ref (h0 + d)), (2, .int (xJ f))]) hx hb hl 7 rfl dX0_findShadow_122 (by decide) rfl (fun ls hl => ?_)
          refine lv_goto (tgt := 21) hx hb dX0_findShadow_125 (by decide) ?_
          exact ih21 x28 x20 (i6_21 + 1) s29 H locs ls rx28 rx20 (by omega) hF31 hp30.1.1 q32 hp30.1.2.1 q33 q34 q35 (by omega) (by
            first
              | exact v21_1.skip V50 (Or.inl (by rw [← V69]; omega))
              | (have z := v21_1.upd V50 (by omega) B50.2.2 (by rw [← V69]; omega) (by rw [← V88]; omega)
                 rw [← V88] at z
                 exact z)
              | exact v21_1.skip V50 (Or.inr (by rw [← V88]; omega))) (by first | exact v21_2 | (rw [fs29 d (by omega)]; exact v21_2)) (by have hm := hm_21 (); omega) hW (lv_sub hl [5, 6, 7, 2, 1, 0] rfl)
        refine x_iload hx hb hl 0 rfl dX0_findShadow_100 ?_
        refine x_iload hx hb hl 5 rfl dX0_findShadow_102 ?_
        refine x_icmp_ne (tgt := 122) hx hb rx28 ri4_21 dX0_findShadow_104 (by decide) (fun c37 => ?_) (fun c37 => ?_)
        · skip
          refine x_iinc (lv' := [(6, .int (xJ (i6_21 + 1))), (8, .int (xJ x28)), (7, .int (xJ x20)), (0, .ref (h0 + 128)), (1, .ref (h0 + d)), (2, .int (xJ f)), (4, .int (xJ i4_21)), (5, .int (xJ i5_21))]) hx hb hl 7 rfl dX0_findShadow_122 (by decide) rfl (fun ls hl => ?_)
          refine lv_goto (tgt := 21) hx hb dX0_findShadow_125 (by decide) ?_
          exact ih21 i4_21 i5_21 (i6_21 + 1) s29 H locs ls ri4_21 ri5_21 (by omega) hF31 hp30.1.1 q32 hp30.1.2.1 q33 q34 q35 (by omega) (by
            first
              | exact v21_1.skip V50 (Or.inl (by rw [← V69]; omega))
              | (have z := v21_1.upd V50 (by omega) B50.2.2 (by rw [← V69]; omega) (by rw [← V88]; omega)
                 rw [← V88] at z
                 exact z)
              | exact v21_1.skip V50 (Or.inr (by rw [← V88]; omega))) (by first | exact v21_2 | (rw [fs29 d (by omega)]; exact v21_2)) (by have hm := hm_21 (); omega) hW (lv_sub hl [3, 4, 5, 6, 7, 0] rfl)
        refine x_iload hx hb hl 1 rfl dX0_findShadow_107 ?_
        refine x_iload hx hb hl 6 rfl dX0_findShadow_109 ?_
        refine x_icmp_ge (tgt := 122) hx hb rx20 ri5_21 dX0_findShadow_111 (by decide) (fun c38 => ?_) (fun c38 => ?_)
        · skip
          refine x_iinc (lv' := [(6, .int (xJ (i6_21 + 1))), (8, .int (xJ x28)), (7, .int (xJ x20)), (0, .ref (h0 + 128)), (1, .ref (h0 + d)), (2, .int (xJ f)), (4, .int (xJ i4_21)), (5, .int (xJ i5_21))]) hx hb hl 7 rfl dX0_findShadow_122 (by decide) rfl (fun ls hl => ?_)
          refine lv_goto (tgt := 21) hx hb dX0_findShadow_125 (by decide) ?_
          exact ih21 i4_21 i5_21 (i6_21 + 1) s29 H locs ls ri4_21 ri5_21 (by omega) hF31 hp30.1.1 q32 hp30.1.2.1 q33 q34 q35 (by omega) (by
            first
              | exact v21_1.skip V50 (Or.inl (by rw [← V69]; omega))
              | (have z := v21_1.upd V50 (by omega) B50.2.2 (by rw [← V69]; omega) (by rw [← V88]; omega)
                 rw [← V88] at z
                 exact z)
              | exact v21_1.skip V50 (Or.inr (by rw [← V88]; omega))) (by first | exact v21_2 | (rw [fs29 d (by omega)]; exact v21_2)) (by have hm := hm_21 (); omega) hW (lv_sub hl [3, 4, 5, 6, 7, 0] rfl)
        refine x_iload hx hb hl 0 rfl dX0_findShadow_114 ?_
        refine lv_istore (lv' := [(4, .int (xJ x28)), (8, .int (xJ x28)), (7, .int (xJ x20)), (0, .ref (h0 + 128)), (1, .ref (h0 + d)), (2, .int (xJ f)), (5, .int (xJ i5_21)), (6, .int (xJ i6_21))]) hx hb dX0_findShadow_116 hl (by decide) rfl (fun ls hl => ?_)
        refine x_iload hx hb hl 2 rfl dX0_findShadow_118 ?_
        refine lv_istore (lv' := [(5, .int (xJ x20)), (4, .int (xJ x28)), (8, .int (xJ x28)), (7, .int (xJ x20)), (0, .ref (h0 + 128)), (1, .ref (h0 + d)), (2, .int (xJ f)), (6, .int (xJ i6_21))]) hx hb dX0_findShadow_120 hl (by decide) rfl (fun ls hl => ?_)
        refine x_iinc (lv' := [(6, .int (xJ (i6_21 + 1))), (5, .int (xJ x20)), (4, .int (xJ x28)), (8, .int (xJ x28)), (7, .int (xJ x20)), (0, .ref (h0 + 128)), (1, .ref (h0 + d)), (2, .int (xJ f))]) hx hb hl 7 rfl dX0_findShadow_122 (by decide) rfl (fun ls hl => ?_)
        refine lv_goto (tgt := 21) hx hb dX0_findShadow_125 (by decide) ?_
        exact ih21 x28 x20 (i6_21 + 1) s29 H locs ls rx28 rx20 (by omega) hF31 hp30.1.1 q32 hp30.1.2.1 q33 q34 q35 (by omega) (by
            first
              | exact v21_1.skip V50 (Or.inl (by rw [← V69]; omega))
              | (have z := v21_1.upd V50 (by omega) B50.2.2 (by rw [← V69]; omega) (by rw [← V88]; omega)
                 rw [← V88] at z
                 exact z)
              | exact v21_1.skip V50 (Or.inr (by rw [← V88]; omega))) (by first | exact v21_2 | (rw [fs29 d (by omega)]; exact v21_2)) (by have hm := hm_21 (); omega) hW (lv_sub hl [5, 6, 7, 2, 1, 0] rfl)
      refine lv_goto (tgt := 122) hx hb dX0_findShadow_73 (by decide) ?_
      refine x_iinc (lv' := [(6, .int (xJ (i6_21 + 1))), (7, .int (xJ x20)), (0, .ref (h0 + 128)), (1, .ref (h0 + d)), (2, .int (xJ f)), (4, .int (xJ i4_21)), (5, .int (xJ i5_21))]) hx hb hl 6 rfl dX0_findShadow_122 (by decide) rfl (fun ls hl => ?_)
      refine lv_goto (tgt := 21) hx hb dX0_findShadow_125 (by decide) ?_
      exact ih21 i4_21 i5_21 (i6_21 + 1) s_21 H locs ls ri4_21 ri5_21 (by omega) hF_21 q21_0 q21_1 q21_2 q21_3 q21_4 q21_5 (by omega) (by
            first
              | exact v21_1.skip V50 (Or.inl (by rw [← V69]; omega))
              | (have z := v21_1.upd V50 (by omega) B50.2.2 (by rw [← V69]; omega) (by rw [← V88]; omega)
                 rw [← V88] at z
                 exact z)
              | exact v21_1.skip V50 (Or.inr (by rw [← V88]; omega))) (by first | exact v21_2 | (rw [fs_21 d (by omega)]; exact v21_2)) (by have hm := hm_21 (); omega) hW (lv_sub hl [2, 3, 4, 5, 6, 0] rfl)
  exact L21 ((101 - 0 : Int).toNat + 1) x5 (-1) 0 s0 H locs ls (by omega) (by decide) (by decide) hF p0 p1 p2 k1_1 kd_7 k130_3 (by have := p1.1.1; omega) (Or.inl ⟨rfl, by omega, fun k k1 k2 => absurd k2 (by omega)⟩) (rfl) (Nat.lt_succ_self _) hW (lv_sub hl [3, 4, 5, 2, 1, 0] rfl)

set_option maxHeartbeats 4000000 in
set_option maxRecDepth 100000 in
theorem c_X0_felonsGoF (l : Launch) (D : va_G) (g : xG) (T : Nat × Nat × Nat) (h0 : Nat) (s0 : xS) (hσ : xRR s0) (d : Nat) (hd : xDay d) (a : Int) (ra : xR a) (b : Int) (rb : xR b) (q9 : zLaw) (K9 : Int → Int) (hok : zLok q9) (hlc : zLD s0 q9) (hK : ∀ t : Int, 0 ≤ t → t < 100 → s0 4 t = K9 t) (hY : zYq (zYc s0 d)) (ha : 0 ≤ a ∧ a ≤ 10) (hln : ∀ k : Int, 0 ≤ k → k < a → (0 ≤ s0 134 k ∧ s0 134 k < 10) ∧ s0 (d + 6) (s0 134 k) ≠ -1) (hLb : ∀ t : Int, 0 ≤ t → t < 100 → 0 ≤ s0 131 t ∧ s0 131 t ≤ 1000) (p0 : IC s0) (p1 : IS s0) (p2 : IQ s0) : Met l yX0_felonsGo (xws yX0_felonsGo cX0_felonsGo 8 none) { frames := 4, cells := 0, slots := 0, locals := 101 } (xP [.ref (h0 + 128), .ref (h0 + d), .int (xJ a), .int (xJ b)] D g T h0 s0) (xQv D g h0 (fun τ => xFr (fun k => (7 ≤ k ∧ k < 107) ∨ k = 107 ∨ k = 115 ∨ k = 116 ∨ k = 133 ∨ k = d ∨ k = d + 6 ∨ k = d + 7 ∨ k = d + 8 ∨ k = d + 9) s0 τ ∧ (((IC τ) ∧ (IS τ) ∧ (IQ τ) ∧ (τ d 7 = s0 d 7) ∧ True) ∧ ((zYc τ d, τ 133) = zgo K9 q9 (s0 131) b (zls (s0 134) 0 a.toNat) (zYc s0 d, s0 133) ∧ zYq (zYc τ d) ∧ τ d 7 = s0 d 7)))) 0 0 (xA h0) := by
  refine x_met hσ (by decide) (Nat.le_of_ble_eq_true rfl) ?_
  intro p e s m args below meth c hx hb hr hml hown hT hlk hnm hE hW ls hl
  have hl : lv_has ls 8 [(0, .ref (h0 + 128)), (1, .ref (h0 + d)), (2, .int (xJ a)), (3, .int (xJ b))] := hl
  obtain ⟨Q, eQ⟩ : ∃ Q, Q = MQ below (xQv D g h0 (fun τ => xFr (fun k => (7 ≤ k ∧ k < 107) ∨ k = 107 ∨ k = 115 ∨ k = 116 ∨ k = 133 ∨ k = d ∨ k = d + 6 ∨ k = d + 7 ∨ k = d + 8 ∨ k = d + 9) s0 τ ∧ (((IC τ) ∧ (IS τ) ∧ (IQ τ) ∧ (τ d 7 = s0 d 7) ∧ True) ∧ ((zYc τ d, τ 133) = zgo K9 q9 (s0 131) b (zls (s0 134) 0 a.toNat) (zYc s0 d, s0 133) ∧ zYq (zYc τ d) ∧ τ d 7 = s0 d 7)))) args s 0 0 (xA h0) := ⟨_, rfl⟩
  rw [← eQ]
  generalize hHe : ([] : List Loc) = locs at hW ⊢
  obtain ⟨H, eH⟩ : ∃ H, H = s.heap := ⟨_, rfl⟩
  rw [← eH] at hW ⊢
  have hF : xFr (fun k => (7 ≤ k ∧ k < 107) ∨ k = 107 ∨ k = 115 ∨ k = 116 ∨ k = 133 ∨ k = d ∨ k = d + 6 ∨ k = d + 7 ∨ k = d + 8 ∨ k = d + 9) s0 s0 := xFr.rf
  have hbd : (136 ≤ d ∧ d < 209) ∧ (d ≤ 146 ∨ 158 ≤ d) := by unfold xDay at hd; omega
  have k1_1 : s0 1 1 = s0 1 1 := rfl
  have kd_7 : s0 d 7 = s0 d 7 := rfl
  have kd_7 : s0 d 7 = s0 d 7 := rfl
  have hm7 := IC.m p0 hd
  refine x_iconst hx hb dX0_felonsGo_0 ?_
  refine lv_istore (lv' := [(4, .int (xJ 0)), (0, .ref (h0 + 128)), (1, .ref (h0 + d)), (2, .int (xJ a)), (3, .int (xJ b))]) hx hb dX0_felonsGo_1 hl (by decide) rfl (fun ls hl => ?_)
  have L3 : ∀ (fu : Nat) (i4_3 : Int) (s_3 : xS) (H : Heap) (locs : List Loc) (ls : Array Slot), (xR i4_3) → (xFr (fun k => (7 ≤ k ∧ k < 107) ∨ k = 107 ∨ k = 115 ∨ k = 116 ∨ k = 133 ∨ k = d ∨ k = d + 6 ∨ k = d + 7 ∨ k = d + 8 ∨ k = d + 9) s0 s_3) → (IC s_3) → (IS s_3) → (IQ s_3) → (s_3 1 1 = s0 1 1) → (s_3 d 7 = s0 d 7) → (0 ≤ i4_3 ∧ i4_3 ≤ a) → ((zYc s_3 d, s_3 133) = zgo K9 q9 (s0 131) b (zls (s0 134) 0 (i4_3).toNat) (zYc s0 d, s0 133)) → (zYq (zYc s_3 d)) → (∀ k : Int, 0 ≤ k → k < a → zYc s_3 d (4 + s0 134 k) ≠ -1) → (s_3 d 7 = s0 d 7) → (s_3 131 = s0 131 ∧ s_3 134 = s0 134) → (a - i4_3).toNat < fu → xW D g h0 s H locs s_3 → lv_has ls 8 [(0, .ref (h0 + 128)), (1, .ref (h0 + d)), (2, .int (xJ a)), (3, .int (xJ b)), (4, .int (xJ i4_3))] → W p l e { frames := 4, cells := 0, slots := 0, locals := 101 } s m args below meth c H locs 0 0 Q (F0 m 3 ls []) := by
    intro fu
    induction fu with
    | zero => intro i4_3 s_3 H locs ls ri4_3 hF_3 q3_0 q3_1 q3_2 q3_3 q3_4 v3_0 v3_1 v3_2 v3_3 v3_4 v3_5 hm; exact absurd hm (Nat.not_lt_zero _)
    | succ fu ih3 =>
      intro i4_3 s_3 H locs ls ri4_3 hF_3 q3_0 q3_1 q3_2 q3_3 q3_4 v3_0 v3_1 v3_2 v3_3 v3_4 v3_5 hm hW hl
      have hm_3 := fun (_ : Unit) => hm
      clear hm
      refine x_iload hx hb hl 4 rfl dX0_felonsGo_3 ?_
      refine x_iload_n hx hb hl 2 rfl dX0_felonsGo_5 rfl ?_
      refine x_icmp_ge (tgt := 209) hx hb ri4_3 ra dX0_felonsGo_6 (by decide) (fun c1 => ?_) (fun c1 => ?_)
      · skip
        rw [eQ]
        exact x_vret hx hb hr hlk hW ⟨hF_3, ⟨q3_0, q3_1, q3_2, q3_4, trivial⟩, ⟨by rw [v3_1, show (i4_3).toNat = a.toNat from by omega], v3_2, by omega⟩⟩ dX0_felonsGo_209
      refine x_iload hx hb hl 4 rfl dX0_felonsGo_9 ?_
      refine x_bipush hx hb dX0_felonsGo_11 (by decide) ?_
      refine x_icmp_ge (tgt := 209) hx hb ri4_3 (by decide) dX0_felonsGo_13 (by decide) (fun c2 => False.elim (by omega)) (fun c2 => ?_)
      refine x_aload_n hx hb hl 0 rfl dX0_felonsGo_16 rfl ?_
      refine x_get (j := 4) (v := .ref (h0 + 134)) hx hb hown hT hE hW cls_X0 (Or.inl (by decide)) (so_128 h0 g _) (by decide) rfl wq361 dX0_felonsGo_17 ?_
      refine x_iload hx hb hl 4 rfl dX0_felonsGo_20 ?_
      refine x_iald hx hb hE hW (Or.inl (by decide)) (sa_134 h0 g _) (by omega) (by decide) dX0_felonsGo_22 ?_
      refine x_rd hW (fun x3 ex3 rx3 => ?_)
      have V22 : x3 = s0 134 i4_3 := by rw [ex3, v3_5.2]
      have B22 := hln i4_3 (by omega) (by omega)
      have C22 := v3_3 i4_3 (by omega) (by omega)
      rw [← V22] at B22 C22
      have y22 := zYc_F (σ := s_3) (d := d) B22.1
      have yq22 := v3_2 _ B22.1.1 B22.1.2
      refine lv_istore (lv' := [(5, .int (xJ x3)), (0, .ref (h0 + 128)), (1, .ref (h0 + d)), (2, .int (xJ a)), (3, .int (xJ b)), (4, .int (xJ i4_3))]) hx hb dX0_felonsGo_23 hl (by decide) rfl (fun ls hl => ?_)
      refine x_aload_n hx hb hl 2 rfl dX0_felonsGo_25 rfl ?_
      refine x_iload hx hb hl 0 rfl dX0_felonsGo_26 ?_
      refine x_goi (x_runVN (As := [.int (xJ x3)]) hx hb hml hown hT hE hW hl.1 (Or.inl (by omega)) (so_day0 h0 g hd _) rfl cf_X2_hasFelon wq862 wq53 wn868 (c_X2_hasFelonF l D g T h0 s_3 hW.2.1 d hd x3 rx3 q3_0) ⟨rfl, rfl, ⟨by decide, by decide⟩, ⟨by decide, by decide⟩⟩ rfl rfl (Nat.le_of_ble_eq_true rfl) dX0_felonsGo_28) hW (fun x4 s5 H locs rx4 hp6 hW => ?_)
      obtain ⟨es5, hp6⟩ := hp6
      subst es5
      have ghp6 := hp6
      have H28 := ghp6
      have t28 : s_3 (d + 6) x3 ≠ -1 := by rw [← y22]; exact C22
      have r28 : ∀ i : Int, 0 ≤ i → i < 10 → s_3 (d + 6) i = -1 ∨ (0 ≤ s_3 (d + 6) i ∧ s_3 (d + 6) i < 100) := fun i i1 i2 => by have z := (v3_2 i i1 i2).1; rw [zYc_F ⟨i1, i2⟩] at z; exact z
      refine x_if_ne (tgt := 37) hx hb rx4 dX0_felonsGo_31 (by decide) (fun c7 => ?_) (fun c7 => False.elim (by omega))
      refine x_aload_n hx hb hl 1 rfl dX0_felonsGo_37 rfl ?_
      refine x_get (j := 3) (v := .ref (h0 + 130)) hx hb hown hT hE hW cls_X0 (Or.inl (by decide)) (so_128 h0 g _) (by decide) rfl wq357 dX0_felonsGo_38 ?_
      refine x_getN (j := 3) (v := .int (xJ (s_3 130 3))) hx hb hown hT hE hW cls_X7 (Or.inl (by decide)) (so_130 h0 g _) (by decide) rfl wn340 dX0_felonsGo_41 ?_
      refine x_rd hW (fun x8 ex8 rx8 => ?_)
      have bx8 : 0 ≤ x8 ∧ x8 ≤ 100 := by rw [ex8]; exact IC.z q3_0
      have V41 : x8 = s_3 130 3 := ex8
      have J65 : ∀ (t0_65 : Int) (s_65 : xS) (H : Heap) (locs : List Loc) (ls : Array Slot), (xR t0_65) → (xFr (fun k => (7 ≤ k ∧ k < 107) ∨ k = 107 ∨ k = 115 ∨ k = 116 ∨ k = 133 ∨ k = d ∨ k = d + 6 ∨ k = d + 7 ∨ k = d + 8 ∨ k = d + 9) s0 s_65) → (IC s_65) → (IS s_65) → (IQ s_65) → (s_65 1 1 = s0 1 1) → (s_65 d 7 = s0 d 7) → (t0_65 = -1 ∨ (0 ≤ t0_65 ∧ t0_65 < 100)) → (t0_65 = zbk K9 (s0 131) (s_3 133) (zYc s_3 d (4 + x3)) (zvF K9 q9 (zYc s_3 d) 118 3 x3).toNat 100) → (zYc s_65 d = (if t0_65 = -1 then zYc s_3 d else xud (zYc s_3 d) 48 (zwp (zYc s_3 d 48 + zds K9 (zYc s_3 d (4 + x3)) (zvF K9 q9 (zYc s_3 d) 118 3 x3).toNat t0_65)))) → (s_65 131 = s0 131 ∧ s_65 133 = s_3 133 ∧ s_65 134 = s0 134) → xW D g h0 s H locs s_65 → lv_has ls 8 [(0, .ref (h0 + 128)), (1, .ref (h0 + d)), (2, .int (xJ a)), (3, .int (xJ b)), (4, .int (xJ i4_3)), (5, .int (xJ x3))] → W p l e { frames := 4, cells := 0, slots := 0, locals := 101 } s m args below meth c H locs 0 0 Q (F0 m 65 ls [.int (xJ t0_65)]) := by
        intro t0_65 s_65 H locs ls rt0_65 hF_65 q65_0 q65_1 q65_2 q65_3 q65_4 v65_0 v65_1 v65_2 v65_3 hW hl
        refine lv_istore (lv' := [(6, .int (xJ t0_65)), (0, .ref (h0 + 128)), (1, .ref (h0 + d)), (2, .int (xJ a)), (3, .int (xJ b)), (4, .int (xJ i4_3)), (5, .int (xJ x3))]) hx hb dX0_felonsGo_65 hl (by decide) rfl (fun ls hl => ?_)
        refine x_iload hx hb hl 0 rfl dX0_felonsGo_67 ?_
        refine x_goi (x_runSN (As := [.int (xJ t0_65)]) hx hb hml hown hT hE hW hl.1 cf_X6_isSpot wq831 wn885 (c_X6_isSpot l D g T h0 s_65 hW.2.1 t0_65 rt0_65) ⟨rfl, rfl, ⟨by decide, by decide⟩, ⟨by decide, by decide⟩⟩ rfl rfl (Nat.le_of_ble_eq_true rfl) dX0_felonsGo_69) hW (fun x9 s10 H locs rx9 hp11 hW => ?_)
        obtain ⟨es10, hp11⟩ := hp11
        subst es10
        have ghp11 := hp11
        refine x_if_ne (tgt := 110) hx hb rx9 dX0_felonsGo_72 (by decide) (fun c12 => ?_) (fun c12 => ?_)
        · skip
          refine x_aload_n hx hb hl 2 rfl dX0_felonsGo_110 rfl ?_
          refine x_getN (j := 3) (v := .ref (h0 + (d + 6))) hx hb hown hT hE hW cls_X2 (Or.inl (by omega)) (so_day0 h0 g hd _) (by decide) rfl wn390 dX0_felonsGo_111 ?_
          refine x_iload hx hb hl 6 rfl dX0_felonsGo_114 ?_
          refine x_iload hx hb hl 0 rfl dX0_felonsGo_116 ?_
          refine x_iast hx hb hE hW (by omega) (fun σ => sa_day6 h0 g hd σ) (by omega) (by decide) rt0_65 dX0_felonsGo_118 (fun H locs s13 es13 hW => ?_)
          have q14 : IC s13 := by rw [es13]; exact IC_o (nsC_d hd (by decide)) q65_0
          have q15 : IS s13 := by rw [es13]; exact IS_o (by unfold suIS; first | decide | omega) q65_1
          have q16 : IQ s13 := by rw [es13]; exact IQ_o (by unfold suIQ; first | decide | omega) q65_2
          have q17 : s13 1 1 = s0 1 1 := (show s13 1 1 = s_65 1 1 from by rw [es13, xU_k _ _ _ (by first | decide | omega)]).trans q65_3
          have q18 : s13 d 7 = s0 d 7 := (show s13 d 7 = s_65 d 7 from by rw [es13, xU_k _ _ _ (by first | decide | omega)]).trans q65_4
          have hF19 := hF_65.put es13 (by omega)
          have E118 := es13
          have I118 : IS s13 := q15
          have M118 : s13 131 = s0 131 := by rw [E118, xU_k _ _ _ (by first | decide | omega)]; exact v65_3.1
          refine x_aload_n hx hb hl 1 rfl dX0_felonsGo_119 rfl ?_
          refine x_get (j := 3) (v := .ref (h0 + 130)) hx hb hown hT hE hW cls_X0 (Or.inl (by decide)) (so_128 h0 g _) (by decide) rfl wq357 dX0_felonsGo_120 ?_
          refine x_getN (j := 2) (v := .ref (h0 + 133)) hx hb hown hT hE hW cls_X7 (Or.inl (by decide)) (so_130 h0 g _) (by decide) rfl wn336 dX0_felonsGo_123 ?_
          refine x_iload hx hb hl 0 rfl dX0_felonsGo_126 ?_
          refine x_iconst hx hb dX0_felonsGo_128 ?_
          refine x_zast hx hb hE hW (by decide) (fun σ => sa_133 h0 g σ) (by omega) (by decide) (by omega) dX0_felonsGo_129 (fun H locs s20 es20 hW => ?_)
          have q21 : IC s20 := by rw [es20]; exact IC_o (by decide) q14
          have q22 : IQ s20 := by rw [es20]; exact IQ_o (by unfold suIQ; first | decide | omega) q16
          have q23 : s20 1 1 = s0 1 1 := (show s20 1 1 = s13 1 1 from by rw [es20, xU_k _ _ _ (by first | decide | omega)]).trans q17
          have q24 : s20 d 7 = s0 d 7 := (show s20 d 7 = s13 d 7 from by rw [es20, xU_k _ _ _ (by first | decide | omega)]).trans q18
          have hF25 := hF19.put es20 (by omega)
          have q26 : IS s20 := IS_t I118 es20 (by omega) (by rw [M118]; have r := zbk_r (K := K9) (L := s0 131) (T := s_3 133) (a := zYc s_3 d (4 + x3)) (v := (zvF K9 q9 (zYc s_3 d) 118 3 x3).toNat); rw [← v65_1] at r; omega)
          have E128 := es20
          have X128 : zYc s20 d = xud (xud (zYc s_3 d) 48 (zwp (zYc s_3 d 48 + zds K9 (zYc s_3 d (4 + x3)) (zvF K9 q9 (zYc s_3 d) 118 3 x3).toNat t0_65))) (4 + x3) t0_65 := by
            rw [E128, zYc_o (by omega), E118, zYc_uF B22.1, v65_2, if_neg (by omega)]
          have T128 : s20 133 = xud (s_3 133) t0_65 1 := by rw [E128, xU_xud, E118, xU_k _ _ _ (by first | decide | omega), v65_3.2.1]
          have M128 : s20 131 = s0 131 ∧ s20 134 = s0 134 := by rw [E128, xU_k _ _ _ (show 131 ≠ 133 from by decide), xU_k _ _ _ (show 134 ≠ 133 from by decide), E118, xU_k _ _ _ (show 131 ≠ d + 6 from by omega), xU_k _ _ _ (show 134 ≠ d + 6 from by omega)]; exact ⟨v65_3.1, v65_3.2.2⟩
          refine x_aload_n hx hb hl 1 rfl dX0_felonsGo_130 rfl ?_
          refine x_get (j := 3) (v := .ref (h0 + 130)) hx hb hown hT hE hW cls_X0 (Or.inl (by decide)) (so_128 h0 g _) (by decide) rfl wq357 dX0_felonsGo_131 ?_
          refine x_iload hx hb hl 0 rfl dX0_felonsGo_134 ?_
          refine x_goi (x_runVN (As := [.int (xJ t0_65)]) hx hb hml hown hT hE hW hl.1 (Or.inl (by decide)) (so_130 h0 g _) rfl cf_X7_layersAt wq899 wq61 wn897 (c_X7_layersAtF l D g T h0 s20 hW.2.1 t0_65 rt0_65 q21) ⟨rfl, rfl, ⟨by decide, by decide⟩, ⟨by decide, by decide⟩⟩ rfl rfl (Nat.le_of_ble_eq_true rfl) dX0_felonsGo_136) hW (fun x27 s28 H locs rx27 hp29 hW => ?_)
          obtain ⟨es28, hp29⟩ := hp29
          subst es28
          have ghp29 := hp29
          have H136 : x27 = s0 131 t0_65 := by
            have e := (ghp29.resolve_right (fun q => by omega)).2.2
            rw [M128.1] at e
            exact e
          have B136 := hLb t0_65 (by omega) (by omega)
          refine lv_istore (lv' := [(7, .int (xJ x27)), (6, .int (xJ t0_65)), (0, .ref (h0 + 128)), (1, .ref (h0 + d)), (2, .int (xJ a)), (3, .int (xJ b)), (4, .int (xJ i4_3)), (5, .int (xJ x3))]) hx hb dX0_felonsGo_139 hl (by decide) rfl (fun ls hl => ?_)
          refine x_iload_n hx hb hl 5 rfl dX0_felonsGo_141 rfl ?_
          have J161 : ∀ (i7_161 : Int) (ls : Array Slot), (xR i7_161) → (i7_161 = (if b ≠ 0 then (if zYc s_3 d 44 % 3 = 0 then 1 else 0) else s0 131 t0_65)) → lv_has ls 8 [(0, .ref (h0 + 128)), (1, .ref (h0 + d)), (2, .int (xJ a)), (3, .int (xJ b)), (4, .int (xJ i4_3)), (5, .int (xJ x3)), (6, .int (xJ t0_65)), (7, .int (xJ i7_161))] → W p l e { frames := 4, cells := 0, slots := 0, locals := 101 } s m args below meth c H locs 0 0 Q (F0 m 161 ls []) := by
            intro i7_161 ls ri7_161 v161_0  hl
            refine x_aload_n hx hb hl 1 rfl dX0_felonsGo_161 rfl ?_
            refine x_getN (j := 4) (v := .ref (h0 + (d + 7))) hx hb hown hT hE hW cls_X2 (Or.inl (by omega)) (so_day0 h0 g hd _) (by decide) rfl wn393 dX0_felonsGo_162 ?_
            refine x_iload hx hb hl 5 rfl dX0_felonsGo_165 ?_
            refine x_aload_n hx hb hl 1 rfl dX0_felonsGo_167 rfl ?_
            refine x_getN (j := 4) (v := .ref (h0 + (d + 7))) hx hb hown hT hE hW cls_X2 (Or.inl (by omega)) (so_day0 h0 g hd _) (by decide) rfl wn393 dX0_felonsGo_168 ?_
            refine x_iload hx hb hl 5 rfl dX0_felonsGo_171 ?_
            refine x_iald hx hb hE hW (Or.inl (by omega)) (sa_day7 h0 g hd _) (by omega) (by decide) dX0_felonsGo_173 ?_
            refine x_rd hW (fun x30 ex30 rx30 => ?_)
            have V173 : x30 = zYc s_3 d (14 + x3) := by
              rw [ex30, ← zYc_O (σ := s20) (d := d) B22.1, X128, xud_o _ _ (by omega), xud_o _ _ (by omega)]
            have B173 := yq22.2.1
            rw [← V173] at B173
            refine x_iload hx hb hl 7 rfl dX0_felonsGo_174 ?_
            refine x_isub hx hb dX0_felonsGo_176 ?_
            refine x_iconst hx hb dX0_felonsGo_177 ?_
            refine x_mmax hx hb hml hl.1 hown hT wq901 wq594 wq180 wq595 ⟨by decide, Nat.le_of_ble_eq_true rfl, by decide, by decide⟩ (by omega) (by decide) dX0_felonsGo_178 ?_
            refine x_nm (fun x31 ex31 => ?_)
            have fx31 : (x31 = (x30 - i7_161) ∧ 0 ≤ (x30 - i7_161)) ∨ (x31 = 0 ∧ (x30 - i7_161) ≤ 0) := by rw [ex31]; split <;> omega
            refine x_iast hx hb hE hW (by omega) (fun σ => sa_day7 h0 g hd σ) (by omega) (by decide) (by omega) dX0_felonsGo_181 (fun H locs s32 es32 hW => ?_)
            have q33 : IC s32 := by rw [es32]; exact IC_o (nsC_d hd (by decide)) q21
            have q34 : IQ s32 := by rw [es32]; exact IQ_o (by unfold suIQ; first | decide | omega) q22
            have q35 : s32 1 1 = s0 1 1 := (show s32 1 1 = s20 1 1 from by rw [es32, xU_k _ _ _ (by first | decide | omega)]).trans q23
            have q36 : s32 d 7 = s0 d 7 := (show s32 d 7 = s20 d 7 from by rw [es32, xU_k _ _ _ (by first | decide | omega)]).trans q24
            have q37 : IS s32 := by rw [es32]; exact IS_o (by unfold suIS; first | decide | omega) q26
            have hF38 := hF25.put es32 (by omega)
            have E181 := es32
            have X181 : zYc s32 d = xud (xud (xud (zYc s_3 d) 48 (zwp (zYc s_3 d 48 + zds K9 (zYc s_3 d (4 + x3)) (zvF K9 q9 (zYc s_3 d) 118 3 x3).toNat t0_65))) (4 + x3) t0_65) (14 + x3) (if zYc s_3 d (14 + x3) ≤ i7_161 then 0 else zYc s_3 d (14 + x3) - i7_161) := by
              rw [E181, zYc_uO B22.1, X128, ← V173]
              congr 1
              split <;> omega
            have N181 : s32 131 = s0 131 ∧ s32 134 = s0 134 ∧ s32 133 = xud (s_3 133) t0_65 1 := by rw [E181, xU_k _ _ _ (show 131 ≠ d + 7 from by omega), xU_k _ _ _ (show 134 ≠ d + 7 from by omega), xU_k _ _ _ (show 133 ≠ d + 7 from by omega)]; exact ⟨M128.1, M128.2, T128⟩
            refine x_aload_n hx hb hl 0 rfl dX0_felonsGo_182 rfl ?_
            refine x_get (j := 0) (v := .ref (h0 + 3)) hx hb hown hT hE hW cls_X0 (Or.inl (by decide)) (so_128 h0 g _) (by decide) rfl wq351 dX0_felonsGo_183 ?_
            refine x_iload hx hb hl 6 rfl dX0_felonsGo_186 ?_
            refine x_goi (x_runVN (As := [.int (xJ t0_65)]) hx hb hml hown hT hE hW hl.1 (Or.inl (by decide)) (so_3 h0 g _) rfl cf_X6_kindAt wq619 wq10 wn848 (c_X6_kindAt l D g T h0 s32 hW.2.1 t0_65 rt0_65 q33) ⟨rfl, rfl, ⟨by decide, by decide⟩, ⟨by decide, by decide⟩⟩ rfl rfl (Nat.le_of_ble_eq_true rfl) dX0_felonsGo_188) hW (fun x39 s40 H locs rx39 hp41 hW => ?_)
            obtain ⟨es40, hp41⟩ := hp41
            subst es40
            have ghp41 := hp41
            have K188 : x39 = K9 t0_65 := by
              have e := (ghp41.resolve_right (fun q => by omega)).2.2
              rw [hF38 4 (by first | decide | omega)] at e
              exact e.trans (hK _ (by omega) (by omega))
            refine x_iconst hx hb dX0_felonsGo_191 ?_
            refine x_icmp_ne (tgt := 203) hx hb rx39 (by decide) dX0_felonsGo_192 (by decide) (fun c42 => ?_) (fun c42 => ?_)
            · skip
              refine x_iinc (lv' := [(4, .int (xJ (i4_3 + 1))), (0, .ref (h0 + 128)), (1, .ref (h0 + d)), (2, .int (xJ a)), (3, .int (xJ b)), (5, .int (xJ x3)), (6, .int (xJ t0_65)), (7, .int (xJ i7_161))]) hx hb hl 4 rfl dX0_felonsGo_203 (by decide) rfl (fun ls hl => ?_)
              have Z203 : (zYc s32 d, s32 133) = zsv K9 q9 (s0 131) b x3 (zYc s_3 d, s_3 133) := by
                first
                  | exact Z106
                  | (rw [X202, N202.2.2]; refine Eq.trans ?_ (zsv_some (b := t0_65) v65_1 (by omega)).symm; rw [if_pos (show K9 t0_65 = 3 from by omega), v161_0])
                  | (rw [X181, N181.2.2]; refine Eq.trans ?_ (zsv_some (b := t0_65) v65_1 (by omega)).symm; rw [if_neg (show ¬ K9 t0_65 = 3 from by omega), v161_0]; exact congrArg (fun y => (y, xud (s_3 133) t0_65 1)) (zxud_e (by rw [xud_o _ _ (by omega), xud_o _ _ (by omega), xud_o _ _ (by omega)])))
              have Q203 : zYq (zYc s32 d) ∧ ∀ k : Int, 0 ≤ k → k < a → zYc s32 d (4 + s0 134 k) ≠ -1 := by
                have e : zYc s32 d = (zsv K9 q9 (s0 131) b x3 (zYc s_3 d, s_3 133)).1 := congrArg Prod.fst Z203
                rw [e]
                have z := zsv_q (K := K9) (q := q9) (L := s0 131) (nt := b) (T := s_3 133) B22.1 (fun t t1 t2 => (hLb t t1 t2).1) v3_2
                refine ⟨z.1, fun k k1 k2 => ?_⟩
                by_cases h : s0 134 k = x3
                · rw [h]; exact z.2.1 C22
                · rw [zsv_o B22.1 (by have y := (hln k k1 k2).1; omega)]; exact v3_3 k k1 k2
              have M203 : s32 131 = s0 131 ∧ s32 134 = s0 134 := by first | exact N106 | exact ⟨N202.1, N202.2.1⟩ | exact ⟨N181.1, N181.2.1⟩
              refine lv_goto (tgt := 3) hx hb dX0_felonsGo_206 (by decide) ?_
              exact ih3 (i4_3 + 1) s32 H locs ls (by omega) hF38 q33 q37 q34 q35 q36 (by omega) (by rw [show (i4_3 + 1).toNat = i4_3.toNat + 1 from by omega]; show _ = zsv K9 q9 (s0 131) b (s0 134 (0 + ((i4_3.toNat : Nat) : Int))) (zgo K9 q9 (s0 131) b (zls (s0 134) 0 i4_3.toNat) (zYc s0 d, s0 133)); rw [← v3_1, show (0 : Int) + ((i4_3.toNat : Nat) : Int) = i4_3 from by omega, ← V22]; exact Z203) (Q203.1) (Q203.2) (by omega) (M203) (by have hm := hm_3 (); omega) hW (lv_sub hl [1, 2, 3, 4, 0] rfl)
            refine x_aload_n hx hb hl 1 rfl dX0_felonsGo_195 rfl ?_
            refine x_getN (j := 6) (v := .ref (h0 + (d + 9))) hx hb hown hT hE hW cls_X2 (Or.inl (by omega)) (so_day0 h0 g hd _) (by decide) rfl wn400 dX0_felonsGo_196 ?_
            refine x_iload hx hb hl 5 rfl dX0_felonsGo_199 ?_
            refine x_iconst hx hb dX0_felonsGo_201 ?_
            refine x_zast hx hb hE hW (by omega) (fun σ => sa_day9 h0 g hd σ) (by omega) (by decide) (by omega) dX0_felonsGo_202 (fun H locs s43 es43 hW => ?_)
            have q44 : IC s43 := by rw [es43]; exact IC_z hd q33 (by omega)
            have q45 : IQ s43 := by rw [es43]; exact IQ_o (by unfold suIQ; first | decide | omega) q34
            have q46 : s43 1 1 = s0 1 1 := (show s43 1 1 = s32 1 1 from by rw [es43, xU_k _ _ _ (by first | decide | omega)]).trans q35
            have q47 : s43 d 7 = s0 d 7 := (show s43 d 7 = s32 d 7 from by rw [es43, xU_k _ _ _ (by first | decide | omega)]).trans q36
            have q48 : IS s43 := by rw [es43]; exact IS_o (by unfold suIS; first | decide | omega) q37
            have hF49 := hF38.put es43 (by omega)
            have E202 := es43
            have X202 : zYc s43 d = xud (xud (xud (xud (zYc s_3 d) 48 (zwp (zYc s_3 d 48 + zds K9 (zYc s_3 d (4 + x3)) (zvF K9 q9 (zYc s_3 d) 118 3 x3).toNat t0_65))) (4 + x3) t0_65) (14 + x3) (if zYc s_3 d (14 + x3) ≤ i7_161 then 0 else zYc s_3 d (14 + x3) - i7_161)) (34 + x3) 1 := by rw [E202, zYc_uD B22.1, X181]
            have N202 : s43 131 = s0 131 ∧ s43 134 = s0 134 ∧ s43 133 = xud (s_3 133) t0_65 1 := by rw [E202, xU_k _ _ _ (show 131 ≠ d + 9 from by omega), xU_k _ _ _ (show 134 ≠ d + 9 from by omega), xU_k _ _ _ (show 133 ≠ d + 9 from by omega)]; exact N181
            refine x_iinc (lv' := [(4, .int (xJ (i4_3 + 1))), (0, .ref (h0 + 128)), (1, .ref (h0 + d)), (2, .int (xJ a)), (3, .int (xJ b)), (5, .int (xJ x3)), (6, .int (xJ t0_65)), (7, .int (xJ i7_161))]) hx hb hl 4 rfl dX0_felonsGo_203 (by decide) rfl (fun ls hl => ?_)
            have Z203 : (zYc s43 d, s43 133) = zsv K9 q9 (s0 131) b x3 (zYc s_3 d, s_3 133) := by
              first
                | exact Z106
                | (rw [X202, N202.2.2]; refine Eq.trans ?_ (zsv_some (b := t0_65) v65_1 (by omega)).symm; rw [if_pos (show K9 t0_65 = 3 from by omega), v161_0])
                | (rw [X181, N181.2.2]; refine Eq.trans ?_ (zsv_some (b := t0_65) v65_1 (by omega)).symm; rw [if_neg (show ¬ K9 t0_65 = 3 from by omega), v161_0]; exact congrArg (fun y => (y, xud (s_3 133) t0_65 1)) (zxud_e (by rw [xud_o _ _ (by omega), xud_o _ _ (by omega), xud_o _ _ (by omega)])))
            have Q203 : zYq (zYc s43 d) ∧ ∀ k : Int, 0 ≤ k → k < a → zYc s43 d (4 + s0 134 k) ≠ -1 := by
              have e : zYc s43 d = (zsv K9 q9 (s0 131) b x3 (zYc s_3 d, s_3 133)).1 := congrArg Prod.fst Z203
              rw [e]
              have z := zsv_q (K := K9) (q := q9) (L := s0 131) (nt := b) (T := s_3 133) B22.1 (fun t t1 t2 => (hLb t t1 t2).1) v3_2
              refine ⟨z.1, fun k k1 k2 => ?_⟩
              by_cases h : s0 134 k = x3
              · rw [h]; exact z.2.1 C22
              · rw [zsv_o B22.1 (by have y := (hln k k1 k2).1; omega)]; exact v3_3 k k1 k2
            have M203 : s43 131 = s0 131 ∧ s43 134 = s0 134 := by first | exact N106 | exact ⟨N202.1, N202.2.1⟩ | exact ⟨N181.1, N181.2.1⟩
            refine lv_goto (tgt := 3) hx hb dX0_felonsGo_206 (by decide) ?_
            exact ih3 (i4_3 + 1) s43 H locs ls (by omega) hF49 q44 q48 q45 q46 q47 (by omega) (by rw [show (i4_3 + 1).toNat = i4_3.toNat + 1 from by omega]; show _ = zsv K9 q9 (s0 131) b (s0 134 (0 + ((i4_3.toNat : Nat) : Int))) (zgo K9 q9 (s0 131) b (zls (s0 134) 0 i4_3.toNat) (zYc s0 d, s0 133)); rw [← v3_1, show (0 : Int) + ((i4_3.toNat : Nat) : Int) = i4_3 from by omega, ← V22]; exact Z203) (Q203.1) (Q203.2) (by omega) (M203) (by have hm := hm_3 (); omega) hW (lv_sub hl [1, 2, 3, 4, 0] rfl)
          refine x_if_eq (tgt := 161) hx hb rb dX0_felonsGo_142 (by decide) (fun c50 => ?_) (fun c50 => ?_)
          · skip
            exact J161 x27 ls rx27 (by first | (rw [if_neg (by omega)]; omega) | (rw [if_pos (by omega), if_pos (by omega)]) | (rw [if_pos (by omega), if_neg (by omega)]))  (lv_sub hl [2, 3, 4, 5, 6, 7, 1, 0] rfl)
          refine x_aload_n hx hb hl 3 rfl dX0_felonsGo_145 rfl ?_
          refine x_getN (j := 7) (v := .int (xJ (s20 d 7))) hx hb hown hT hE hW cls_X2 (Or.inl (by omega)) (so_day0 h0 g hd _) (by decide) rfl wn402 dX0_felonsGo_146 ?_
          refine x_rd hW (fun x51 ex51 rx51 => ?_)
          have bx51 : 0 ≤ x51 ∧ x51 ≤ 9999 := by rw [ex51]; exact IC.m q21 hd
          have fx51 : x51 = s0 d 7 := ex51.trans q24
          have V146 : x51 = zYc s_3 d 44 := by
            have e : x51 = s0 d 7 := by omega
            rw [e, zYc_44]
            omega
          refine x_iconst hx hb dX0_felonsGo_149 ?_
          refine x_irem hx hb rx51 (by decide) (by omega) (by decide) dX0_felonsGo_150 ?_
          refine x_if_ne (tgt := 158) hx hb (by omega) dX0_felonsGo_151 (by decide) (fun c52 => ?_) (fun c52 => ?_)
          · skip
            refine x_iconst hx hb dX0_felonsGo_158 ?_
            refine lv_istore (lv' := [(7, .int (xJ 0)), (6, .int (xJ t0_65)), (0, .ref (h0 + 128)), (1, .ref (h0 + d)), (2, .int (xJ a)), (3, .int (xJ b)), (4, .int (xJ i4_3)), (5, .int (xJ x3))]) hx hb dX0_felonsGo_159 hl (by decide) rfl (fun ls hl => ?_)
            exact J161 0 ls (by decide) (by first | (rw [if_neg (by omega)]; omega) | (rw [if_pos (by omega), if_pos (by omega)]) | (rw [if_pos (by omega), if_neg (by omega)]))  (lv_sub hl [2, 3, 4, 5, 6, 7, 1, 0] rfl)
          refine x_iconst hx hb dX0_felonsGo_154 ?_
          refine lv_goto (tgt := 159) hx hb dX0_felonsGo_155 (by decide) ?_
          refine lv_istore (lv' := [(7, .int (xJ 1)), (6, .int (xJ t0_65)), (0, .ref (h0 + 128)), (1, .ref (h0 + d)), (2, .int (xJ a)), (3, .int (xJ b)), (4, .int (xJ i4_3)), (5, .int (xJ x3))]) hx hb dX0_felonsGo_159 hl (by decide) rfl (fun ls hl => ?_)
          exact J161 1 ls (by decide) (by first | (rw [if_neg (by omega)]; omega) | (rw [if_pos (by omega), if_pos (by omega)]) | (rw [if_pos (by omega), if_neg (by omega)]))  (lv_sub hl [2, 3, 4, 5, 6, 7, 1, 0] rfl)
        refine x_aload_n hx hb hl 2 rfl dX0_felonsGo_75 rfl ?_
        refine lv_dup hx hb dX0_felonsGo_76 rfl ?_
        refine x_getN (j := 9) (v := .int (xJ (s_65 d 9))) hx hb hown hT hE hW cls_X2 (Or.inl (by omega)) (so_day0 h0 g hd _) (by decide) rfl wn408 dX0_felonsGo_77 ?_
        refine x_rd hW (fun x53 ex53 rx53 => ?_)
        have V77 : x53 = zYc s_3 d 46 := by rw [ex53, ← zYc_46 (σ := s_65) (d := d), v65_2, if_pos (by omega)]
        refine x_iconst hx hb dX0_felonsGo_80 ?_
        refine x_iadd hx hb dX0_felonsGo_81 ?_
        refine x_wv (fun x54 ex54 rx54 => ?_)
        have W81 := ex54
        refine x_putN (j := 9) hx hb hown hT hE hW cls_X2 (by omega) (fun σ => so_day0 h0 g hd σ) (by decide) (st_X2_9 h0 s_65 d x54) (ln_X2_9 h0 _ _) wn408 rfl rfl rfl rx54 dX0_felonsGo_82 (fun H locs s55 es55 hW => ?_)
        have q56 : IC s55 := by rw [es55]; exact IC_d hd q65_0 (by omega)
        have q57 : IS s55 := by rw [es55]; exact IS_o (by unfold suIS; first | decide | omega) q65_1
        have q58 : IQ s55 := by rw [es55]; exact IQ_o (by unfold suIQ; first | decide | omega) q65_2
        have q59 : s55 1 1 = s0 1 1 := (show s55 1 1 = s_65 1 1 from by rw [es55, xU_k _ _ _ (by first | decide | omega)]).trans q65_3
        have q60 : s55 d 7 = s0 d 7 := (show s55 d 7 = s_65 d 7 from by rw [es55, xU_j _ _ (by decide)]).trans q65_4
        have hF61 := hF_65.put es55 (by omega)
        have E82 := es55
        refine x_aload_n hx hb hl 2 rfl dX0_felonsGo_85 rfl ?_
        refine x_getN (j := 5) (v := .ref (h0 + (d + 8))) hx hb hown hT hE hW cls_X2 (Or.inl (by omega)) (so_day0 h0 g hd _) (by decide) rfl wn396 dX0_felonsGo_86 ?_
        refine x_iload hx hb hl 6 rfl dX0_felonsGo_89 ?_
        refine x_aload_n hx hb hl 2 rfl dX0_felonsGo_91 rfl ?_
        refine x_getN (j := 5) (v := .ref (h0 + (d + 8))) hx hb hown hT hE hW cls_X2 (Or.inl (by omega)) (so_day0 h0 g hd _) (by decide) rfl wn396 dX0_felonsGo_92 ?_
        refine x_iload hx hb hl 6 rfl dX0_felonsGo_95 ?_
        refine x_iald hx hb hE hW (Or.inl (by omega)) (sa_day8 h0 g hd _) (by omega) (by decide) dX0_felonsGo_97 ?_
        refine x_rd hW (fun x62 ex62 rx62 => ?_)
        have V97 : x62 = zYc s_3 d (24 + x3) := by
          rw [ex62, ← zYc_A (σ := s55) (d := d) B22.1, E82, zYc_u46, xud_o _ _ (by omega), v65_2, if_pos (by omega)]
        have B97 := yq22.2.2.1
        rw [← V97] at B97
        refine x_iconst hx hb dX0_felonsGo_98 ?_
        refine x_iadd hx hb dX0_felonsGo_99 ?_
        refine x_sipush hx hb dX0_felonsGo_100 (by decide) ?_
        refine x_mmin hx hb hml hl.1 hown hT wq896 wq569 wq180 wq570 ⟨by decide, Nat.le_of_ble_eq_true rfl, by decide, by decide⟩ (by omega) (by decide) dX0_felonsGo_103 ?_
        refine x_nm (fun x63 ex63 => ?_)
        have fx63 : (x63 = (x62 + 1) ∧ (x62 + 1) ≤ 999) ∨ (x63 = 999 ∧ 999 ≤ (x62 + 1)) := by rw [ex63]; split <;> omega
        refine x_iast hx hb hE hW (by omega) (fun σ => sa_day8 h0 g hd σ) (by omega) (by decide) (by omega) dX0_felonsGo_106 (fun H locs s64 es64 hW => ?_)
        have q65 : IC s64 := by rw [es64]; exact IC_o (nsC_d hd (by decide)) q56
        have q66 : IS s64 := by rw [es64]; exact IS_o (by unfold suIS; first | decide | omega) q57
        have q67 : IQ s64 := by rw [es64]; exact IQ_o (by unfold suIQ; first | decide | omega) q58
        have q68 : s64 1 1 = s0 1 1 := (show s64 1 1 = s55 1 1 from by rw [es64, xU_k _ _ _ (by first | decide | omega)]).trans q59
        have q69 : s64 d 7 = s0 d 7 := (show s64 d 7 = s55 d 7 from by rw [es64, xU_k _ _ _ (by first | decide | omega)]).trans q60
        have hF70 := hF61.put es64 (by omega)
        have E106 := es64
        have Y106 : zYc s64 d = xud (xud (zYc s_3 d) 46 (zwp (zYc s_3 d 46 + 1))) (24 + x3) (if zYc s_3 d (24 + x3) + 1 ≤ 999 then zYc s_3 d (24 + x3) + 1 else 999) := by
          rw [E106, zYc_uA B22.1, E82, zYc_u46, v65_2, if_pos (by omega), W81, V77, ← V97]
          congr 1
          split <;> omega
        have M106 : s64 133 = s_3 133 := by rw [E106, xU_k _ _ _ (by first | decide | omega), E82, xU_k _ _ _ (by first | decide | omega)]; exact v65_3.2.1
        have Z106 : (zYc s64 d, s64 133) = zsv K9 q9 (s0 131) b x3 (zYc s_3 d, s_3 133) := by
          rw [Y106, M106]
          exact (zsv_none (by omega)).symm
        have N106 : s64 131 = s0 131 ∧ s64 134 = s0 134 := by rw [E106, xU_k _ _ _ (show 131 ≠ d + 8 from by omega), xU_k _ _ _ (show 134 ≠ d + 8 from by omega), E82, xU_k _ _ _ (show 131 ≠ d from by omega), xU_k _ _ _ (show 134 ≠ d from by omega)]; exact ⟨v65_3.1, v65_3.2.2⟩
        refine lv_goto (tgt := 203) hx hb dX0_felonsGo_107 (by decide) ?_
        refine x_iinc (lv' := [(4, .int (xJ (i4_3 + 1))), (6, .int (xJ t0_65)), (0, .ref (h0 + 128)), (1, .ref (h0 + d)), (2, .int (xJ a)), (3, .int (xJ b)), (5, .int (xJ x3))]) hx hb hl 5 rfl dX0_felonsGo_203 (by decide) rfl (fun ls hl => ?_)
        have Z203 : (zYc s64 d, s64 133) = zsv K9 q9 (s0 131) b x3 (zYc s_3 d, s_3 133) := by
          first
            | exact Z106
            | (rw [X202, N202.2.2]; refine Eq.trans ?_ (zsv_some (b := t0_65) v65_1 (by omega)).symm; rw [if_pos (show K9 t0_65 = 3 from by omega), v161_0])
            | (rw [X181, N181.2.2]; refine Eq.trans ?_ (zsv_some (b := t0_65) v65_1 (by omega)).symm; rw [if_neg (show ¬ K9 t0_65 = 3 from by omega), v161_0]; exact congrArg (fun y => (y, xud (s_3 133) t0_65 1)) (zxud_e (by rw [xud_o _ _ (by omega), xud_o _ _ (by omega), xud_o _ _ (by omega)])))
        have Q203 : zYq (zYc s64 d) ∧ ∀ k : Int, 0 ≤ k → k < a → zYc s64 d (4 + s0 134 k) ≠ -1 := by
          have e : zYc s64 d = (zsv K9 q9 (s0 131) b x3 (zYc s_3 d, s_3 133)).1 := congrArg Prod.fst Z203
          rw [e]
          have z := zsv_q (K := K9) (q := q9) (L := s0 131) (nt := b) (T := s_3 133) B22.1 (fun t t1 t2 => (hLb t t1 t2).1) v3_2
          refine ⟨z.1, fun k k1 k2 => ?_⟩
          by_cases h : s0 134 k = x3
          · rw [h]; exact z.2.1 C22
          · rw [zsv_o B22.1 (by have y := (hln k k1 k2).1; omega)]; exact v3_3 k k1 k2
        have M203 : s64 131 = s0 131 ∧ s64 134 = s0 134 := by first | exact N106 | exact ⟨N202.1, N202.2.1⟩ | exact ⟨N181.1, N181.2.1⟩
        refine lv_goto (tgt := 3) hx hb dX0_felonsGo_206 (by decide) ?_
        exact ih3 (i4_3 + 1) s64 H locs ls (by omega) hF70 q65 q66 q67 q68 q69 (by omega) (by rw [show (i4_3 + 1).toNat = i4_3.toNat + 1 from by omega]; show _ = zsv K9 q9 (s0 131) b (s0 134 (0 + ((i4_3.toNat : Nat) : Int))) (zgo K9 q9 (s0 131) b (zls (s0 134) 0 i4_3.toNat) (zYc s0 d, s0 133)); rw [← v3_1, show (0 : Int) + ((i4_3.toNat : Nat) : Int) = i4_3 from by omega, ← V22]; exact Z203) (Q203.1) (Q203.2) (by omega) (M203) (by have hm := hm_3 (); omega) hW (lv_sub hl [2, 3, 4, 5, 0] rfl)
      refine x_if_le (tgt := 64) hx hb rx8 dX0_felonsGo_44 (by decide) (fun c71 => ?_) (fun c71 => ?_)
      · skip
        refine x_iconst hx hb dX0_felonsGo_64 ?_
        have N64 : (-1 : Int) = zbk K9 (s0 131) (s_3 133) (zYc s_3 d (4 + x3)) (zvF K9 q9 (zYc s_3 d) 118 3 x3).toNat 100 := by
          refine (zbk_0 (fun t t1 t2 h => ?_)).symm
          have z := (show IS s_3 from q3_1).1
          rw [v3_5.1] at z
          obtain ⟨i, i1, i2, i3⟩ := z.2.2.1 t t1 t2 (by omega)
          omega
        exact J65 (-1) s_3 H locs ls (by decide) hF_3 q3_0 q3_1 q3_2 q3_3 q3_4 (by first | exact Or.inl rfl | (have r := zbk_r (K := K9) (L := s0 131) (T := s_3 133) (a := zYc s_3 d (4 + x3)) (v := (zvF K9 q9 (zYc s_3 d) 118 3 x3).toNat); rw [← H58.1] at r; omega)) (by first | exact H58.1 | exact N64) (by first | exact H58.2.2 | (rw [if_pos rfl])) (by first | exact ⟨v3_5.1, rfl, v3_5.2⟩ | exact ⟨(fs_3 131 (by omega)).trans ((F55 131 (by omega)).trans v3_5.1), (fs_3 133 (by omega)).trans (F55 133 (by omega)), (fs_3 134 (by omega)).trans ((F55 134 (by omega)).trans v3_5.2)⟩) hW (lv_sub hl [1, 2, 3, 4, 5, 0] rfl)
      refine x_aload_n hx hb hl 1 rfl dX0_felonsGo_47 rfl ?_
      refine x_aload_n hx hb hl 2 rfl dX0_felonsGo_48 rfl ?_
      refine x_iload hx hb hl 0 rfl dX0_felonsGo_49 ?_
      refine x_aload_n hx hb hl 1 rfl dX0_felonsGo_51 rfl ?_
      refine x_aload_n hx hb hl 2 rfl dX0_felonsGo_52 rfl ?_
      refine x_iload hx hb hl 0 rfl dX0_felonsGo_53 ?_
      refine x_goi (x_runV (As := [.ref (h0 + d), .int (xJ x3)]) hx hb hml hown hT hE hW hl.1 (Or.inl (by decide)) (so_128 h0 g _) rfl cf_X0_reachOf wq879 wq57 wq877 (c_X0_reachOfF l D g T h0 s_3 hW.2.1 d hd x3 rx3 q9 K9 (hok) (by first | exact hlc | exact hlc.f (fun k hk => hF_3 k (by omega))) (B22.1) (by first | exact hK | exact fun t t1 t2 => by rw [hF_3 4 (by first | decide | omega)]; exact hK t t1 t2) (r28) (t28) q3_0) ⟨rfl, rfl, ⟨by decide, by decide⟩, ⟨by decide, by decide⟩⟩ rfl rfl (Nat.le_of_ble_eq_true rfl) dX0_felonsGo_55) hW (fun x72 s73 H locs rx72 hp74 hW => ?_)
      obtain ⟨fs73, hp74⟩ := hp74
      have hF75 := hF_3.call fs73 (fun k h => by omega)
      have q76 : IS s73 := IS_f (fun k hk => fs73 k (by unfold suIS at hk; omega)) q3_1
      have q77 : IQ s73 := IQ_f (fun k hk => fs73 k (by unfold suIQ at hk; omega)) q3_2
      have q78 : s73 1 1 = s0 1 1 := (congrFun (fs73 _ (by omega)) _).trans q3_3
      have q79 : s73 d 7 = s0 d 7 := (congrFun (fs73 _ (by omega)) _).trans q3_4
      have ghp74 := hp74.2
      have R55 := ghp74
      have F55 := fs73
      refine x_goi (x_runV (As := [.ref (h0 + d), .int (xJ x3), .int (xJ x72)]) hx hb hml hown hT hE hW hl.1 (Or.inl (by decide)) (so_128 h0 g _) rfl cf_X0_findShadow wq883 wq58 wq881 (c_X0_findShadowF l D g T h0 s73 hW.2.1 d hd x3 rx3 x72 rx72 K9 (B22.1) (by first | exact hK | exact fun t t1 t2 => by rw [hF75 4 (by first | decide | omega)]; exact hK t t1 t2) (fun i i1 i2 => by rw [F55 (d + 6) (by omega)]; exact r28 i i1 i2) (by rw [F55 (d + 6) (by omega)]; exact t28) (by rw [R55]; exact zvF_r (by decide)) (fun t t1 t2 => by rw [F55 131 (by omega), v3_5.1]; exact (hLb t t1 t2).1) hp74.1.1 q76 q77) ⟨rfl, rfl, ⟨by decide, by decide⟩, ⟨by decide, by decide⟩⟩ rfl rfl (Nat.le_of_ble_eq_true rfl) dX0_felonsGo_58) hW (fun x80 s81 H locs rx80 hp82 hW => ?_)
      obtain ⟨fs81, hp82⟩ := hp82
      have hF83 := hF75.call fs81 (fun k h => by omega)
      have q84 : s81 1 1 = s0 1 1 := (congrFun (fs81 _ (by omega)) _).trans q78
      have ghp82 := hp82.2
      have H58 := ghp82
      rw [F55 131 (by omega), F55 133 (by omega), F55 (d + 6) (by omega), v3_5.1, ← y22, R55, zYc_f (fun o ho => F55 (d + o) (by omega)), show s73 d 11 = zYc s_3 d 48 from by rw [zYc_48, F55 d (by omega)]] at H58
      refine lv_goto (tgt := 65) hx hb dX0_felonsGo_61 (by decide) ?_
      exact J65 x80 s81 H locs ls rx80 hF83 hp82.1.1 hp82.1.2.1 hp82.1.2.2.1 q84 (hp82.1.2.2.2.1.trans q79) (by first | exact Or.inl rfl | (have r := zbk_r (K := K9) (L := s0 131) (T := s_3 133) (a := zYc s_3 d (4 + x3)) (v := (zvF K9 q9 (zYc s_3 d) 118 3 x3).toNat); rw [← H58.1] at r; omega)) (by first | exact H58.1 | exact N64) (by first | exact H58.2.2 | (rw [if_pos rfl])) (by first | exact ⟨v3_5.1, rfl, v3_5.2⟩ | exact ⟨(fs81 131 (by first | decide | omega)).trans ((F55 131 (by omega)).trans v3_5.1), (fs81 133 (by first | decide | omega)).trans (F55 133 (by omega)), (fs81 134 (by first | decide | omega)).trans ((F55 134 (by omega)).trans v3_5.2)⟩) hW (lv_sub hl [1, 2, 3, 4, 5, 0] rfl)
  exact L3 ((a - 0 : Int).toNat + 1) 0 s0 H locs ls (by decide) hF p0 p1 p2 k1_1 kd_7 (by omega) (rfl) (hY) (fun k k1 k2 => by rw [zYc_F (hln k k1 k2).1]; exact (hln k k1 k2).2) (by omega) (⟨rfl, rfl⟩) (Nat.lt_succ_self _) hW (lv_sub hl [1, 2, 3, 4, 0] rfl)

set_option maxHeartbeats 4000000 in
set_option maxRecDepth 100000 in
theorem c_X2_owedByAllF (l : Launch) (D : va_G) (g : xG) (T : Nat × Nat × Nat) (h0 : Nat) (s0 : xS) (hσ : xRR s0) (d : Nat) (hd : xDay d) (hO : ∀ f : Int, 0 ≤ f → f < 10 → 0 ≤ zYc s0 d (14 + f) ∧ zYc s0 d (14 + f) ≤ 999) (p0 : IC s0) : Met l yX2_owedByAll (xws yX2_owedByAll cX2_owedByAll 3 (some .int)) { frames := 0, cells := 0, slots := 0, locals := 0 } (xP [.ref (h0 + d)] D g T h0 s0) (xQi D g h0 (fun r τ => s0 = τ ∧ (r = zSm (zYc s0 d)))) 0 0 (xA h0) := by
  refine x_met hσ (by decide) (Nat.le_of_ble_eq_true rfl) ?_
  intro p e s m args below meth c hx hb hr hml hown hT hlk hnm hE hW ls hl
  have hl : lv_has ls 3 [(0, .ref (h0 + d))] := hl
  obtain ⟨Q, eQ⟩ : ∃ Q, Q = MQ below (xQi D g h0 (fun r τ => s0 = τ ∧ (r = zSm (zYc s0 d)))) args s 0 0 (xA h0) := ⟨_, rfl⟩
  rw [← eQ]
  generalize hHe : ([] : List Loc) = locs at hW ⊢
  obtain ⟨H, eH⟩ : ∃ H, H = s.heap := ⟨_, rfl⟩
  rw [← eH] at hW ⊢
  have hbd : (136 ≤ d ∧ d < 209) ∧ (d ≤ 146 ∨ 158 ≤ d) := by unfold xDay at hd; omega
  have k1_1 : s0 1 1 = s0 1 1 := rfl
  refine x_iconst hx hb dX2_owedByAll_0 ?_
  refine lv_istore_n (lv' := [(1, .int (xJ 0)), (0, .ref (h0 + d))]) hx hb dX2_owedByAll_1 rfl hl (by decide) rfl (fun ls hl => ?_)
  refine x_iconst hx hb dX2_owedByAll_2 ?_
  refine lv_istore_n (lv' := [(2, .int (xJ 0)), (1, .int (xJ 0)), (0, .ref (h0 + d))]) hx hb dX2_owedByAll_3 rfl hl (by decide) rfl (fun ls hl => ?_)
  have L4 : ∀ (fu : Nat) (i1_4 : Int) (i2_4 : Int) (ls : Array Slot), (xR i1_4) → (xR i2_4) → (0 ≤ i2_4 ∧ i2_4 ≤ 10) → (i1_4 = zsu (fun f => zYc s0 d (14 + f)) (i2_4).toNat) → (0 ≤ i1_4 ∧ i1_4 ≤ 999 * i2_4) → (10 - i2_4).toNat < fu → lv_has ls 3 [(0, .ref (h0 + d)), (1, .int (xJ i1_4)), (2, .int (xJ i2_4))] → W p l e { frames := 0, cells := 0, slots := 0, locals := 0 } s m args below meth c H locs 0 0 Q (F0 m 4 ls []) := by
    intro fu
    induction fu with
    | zero => intro i1_4 i2_4 ls ri1_4 ri2_4 v4_0 v4_1 v4_2 hm; exact absurd hm (Nat.not_lt_zero _)
    | succ fu ih4 =>
      intro i1_4 i2_4 ls ri1_4 ri2_4 v4_0 v4_1 v4_2 hm  hl
      have hm_4 := fun (_ : Unit) => hm
      clear hm
      refine x_iload_n hx hb hl 2 rfl dX2_owedByAll_4 rfl ?_
      refine x_bipush hx hb dX2_owedByAll_5 (by decide) ?_
      refine x_icmp_ge (tgt := 25) hx hb ri2_4 (by decide) dX2_owedByAll_7 (by decide) (fun c1 => ?_) (fun c1 => ?_)
      · skip
        refine x_iload_n hx hb hl 1 rfl dX2_owedByAll_25 rfl ?_
        rw [eQ]
        exact x_iret hx hb hr hlk hW ri1_4 ⟨rfl, by rw [v4_1, show (i2_4).toNat = 10 from by omega]; rfl⟩ dX2_owedByAll_26
      refine x_iload_n hx hb hl 1 rfl dX2_owedByAll_10 rfl ?_
      refine x_aload_n hx hb hl 0 rfl dX2_owedByAll_11 rfl ?_
      refine x_get (j := 4) (v := .ref (h0 + (d + 7))) hx hb hown hT hE hW cls_X2 (Or.inl (by omega)) (so_day0 h0 g hd _) (by decide) rfl wq392 dX2_owedByAll_12 ?_
      refine x_iload_n hx hb hl 2 rfl dX2_owedByAll_15 rfl ?_
      refine x_iald hx hb hE hW (Or.inl (by omega)) (sa_day7 h0 g hd _) (by omega) (by decide) dX2_owedByAll_16 ?_
      refine x_rd hW (fun x2 ex2 rx2 => ?_)
      have V16 : x2 = zYc s0 d (14 + i2_4) := by rw [ex2, zYc_O (by omega)]
      have B16 := hO i2_4 (by omega) (by omega)
      refine x_iadd hx hb dX2_owedByAll_17 ?_
      refine x_nm (fun x3 ex3 => ?_)
      refine lv_istore_n (lv' := [(1, .int (xJ x3)), (0, .ref (h0 + d)), (2, .int (xJ i2_4))]) hx hb dX2_owedByAll_18 rfl hl (by decide) rfl (fun ls hl => ?_)
      refine x_iinc (lv' := [(2, .int (xJ (i2_4 + 1))), (1, .int (xJ x3)), (0, .ref (h0 + d))]) hx hb hl 2 rfl dX2_owedByAll_19 (by decide) rfl (fun ls hl => ?_)
      refine lv_goto (tgt := 4) hx hb dX2_owedByAll_22 (by decide) ?_
      exact ih4 x3 (i2_4 + 1) ls (by omega) (by omega) (by omega) (by
            rw [show (i2_4 + 1).toNat = i2_4.toNat + 1 from by omega]
            show _ = zsu (fun f => zYc s0 d (14 + f)) i2_4.toNat + zYc s0 d (14 + ((i2_4.toNat : Nat) : Int))
            rw [show ((i2_4.toNat : Nat) : Int) = i2_4 from by omega, ← v4_1]
            omega) (by omega) (by have hm := hm_4 (); omega)  (lv_sub hl [2, 1, 0] rfl)
  exact L4 ((10 - 0 : Int).toNat + 1) 0 0 ls (by decide) (by decide) (by omega) (rfl) (by omega) (Nat.lt_succ_self _)  (lv_sub hl [2, 1, 0] rfl)
set_option maxHeartbeats 4000000 in
set_option maxRecDepth 100000 in
theorem c_X2_drawF (l : Launch) (D : va_G) (g : xG) (T : Nat × Nat × Nat) (h0 : Nat) (s0 : xS) (hσ : xRR s0) (d : Nat) (hd : xDay d) (p0 : IC s0) : Met l yX2_draw (xws yX2_draw cX2_draw 1 (some .int)) { frames := 0, cells := 0, slots := 0, locals := 0 } (xP [.ref (h0 + d)] D g T h0 s0) (xQi D g h0 (fun r τ => xFr (fun k => k = d) s0 τ ∧ (((IC τ) ∧ (τ d 7 = s0 d 7) ∧ True) ∧ (zYc τ d = xud (zYc s0 d) 45 (zX (zYc s0 d 45)) ∧ r = zX (zYc s0 d 45) % 10)))) 0 0 (xA h0) := by
  refine x_met hσ (by decide) (Nat.le_of_ble_eq_true rfl) ?_
  intro p e s m args below meth c hx hb hr hml hown hT hlk hnm hE hW ls hl
  have hl : lv_has ls 1 [(0, .ref (h0 + d))] := hl
  obtain ⟨Q, eQ⟩ : ∃ Q, Q = MQ below (xQi D g h0 (fun r τ => xFr (fun k => k = d) s0 τ ∧ (((IC τ) ∧ (τ d 7 = s0 d 7) ∧ True) ∧ (zYc τ d = xud (zYc s0 d) 45 (zX (zYc s0 d 45)) ∧ r = zX (zYc s0 d 45) % 10)))) args s 0 0 (xA h0) := ⟨_, rfl⟩
  rw [← eQ]
  generalize hHe : ([] : List Loc) = locs at hW ⊢
  obtain ⟨H, eH⟩ : ∃ H, H = s.heap := ⟨_, rfl⟩
  rw [← eH] at hW ⊢
  have hF : xFr (fun k => k = d) s0 s0 := xFr.rf
  have hbd : (136 ≤ d ∧ d < 209) ∧ (d ≤ 146 ∨ 158 ≤ d) := by unfold xDay at hd; omega
  have k1_1 : s0 1 1 = s0 1 1 := rfl
  have kd_7 : s0 d 7 = s0 d 7 := rfl
  refine x_aload_n hx hb hl 0 rfl dX2_draw_0 rfl ?_
  refine x_sipush hx hb dX2_draw_1 (by decide) ?_
  refine x_aload_n hx hb hl 0 rfl dX2_draw_4 rfl ?_
  refine x_get (j := 8) (v := .int (xJ (s0 d 8))) hx hb hown hT hE hW cls_X2 (Or.inl (by omega)) (so_day0 h0 g hd _) (by decide) rfl wq404 dX2_draw_5 ?_
  refine x_rd hW (fun x1 ex1 rx1 => ?_)
  have bx1 : 0 ≤ x1 ∧ x1 ≤ 65535 := by rw [ex1]; exact IC.x p0 hd
  have V5 : x1 = s0 d 8 := ex1
  refine x_imul hx hb dX2_draw_8 ?_
  refine x_sipush hx hb dX2_draw_9 (by decide) ?_
  refine x_iadd hx hb dX2_draw_12 ?_
  refine lv_ldc (v := xJ 65536) hx hb hown (hT _ wq799) dX2_draw_13 ?_
  refine x_irem hx hb (by omega) (by decide) (by omega) (by decide) dX2_draw_15 ?_
  refine x_put (j := 8) hx hb hown hT hE hW cls_X2 (by omega) (fun σ => so_day0 h0 g hd σ) (by decide) (st_X2_8 h0 s0 d (((25173 * x1) + 13849) % 65536)) (ln_X2_8 h0 _ _) wq404 rfl rfl rfl (by omega) dX2_draw_16 (fun H locs s2 es2 hW => ?_)
  have q3 : IC s2 := by rw [es2]; exact IC_d hd p0 (by omega)
  have q4 : s2 1 1 = s0 1 1 := (show s2 1 1 = s0 1 1 from by rw [es2, xU_k _ _ _ (by first | decide | omega)]).trans k1_1
  have q5 : s2 d 7 = s0 d 7 := (show s2 d 7 = s0 d 7 from by rw [es2, xU_j _ _ (by decide)]).trans kd_7
  have hF6 := hF.put es2 (by omega)
  have E16 := es2
  have W16 : s2 d 8 = (25173 * x1 + 13849) % 65536 := by rw [es2, xU_s]
  refine x_aload_n hx hb hl 0 rfl dX2_draw_19 rfl ?_
  refine x_get (j := 8) (v := .int (xJ (s2 d 8))) hx hb hown hT hE hW cls_X2 (Or.inl (by omega)) (so_day0 h0 g hd _) (by decide) rfl wq404 dX2_draw_20 ?_
  refine x_rd hW (fun x7 ex7 rx7 => ?_)
  have bx7 : 0 ≤ x7 ∧ x7 ≤ 65535 := by rw [ex7]; exact IC.x q3 hd
  refine x_bipush hx hb dX2_draw_23 (by decide) ?_
  refine x_irem hx hb rx7 (by decide) (by omega) (by decide) dX2_draw_25 ?_
  rw [eQ]
  exact x_iret hx hb hr hlk hW (by omega) ⟨hF6, ⟨q3, q5, trivial⟩, by
    have e : zX (zYc s0 d 45) = (25173 * x1 + 13849) % 65536 := by rw [zYc_45]; unfold zX; rw [← V5]
    rw [e]
    exact ⟨by rw [E16, zYc_u45], by omega⟩⟩ dX2_draw_26
set_option maxHeartbeats 4000000 in
set_option maxRecDepth 100000 in
theorem c_X0_goOnF (l : Launch) (D : va_G) (g : xG) (T : Nat × Nat × Nat) (h0 : Nat) (s0 : xS) (hσ : xRR s0) (d : Nat) (hd : xDay d) (n : Int) (rn : xR n) (a : Int) (ra : xR a) (K9 : Int → Int) (n9 : Int → Int) (w9 : Int → Int → Int) (q9 : zLaw) (l9 : Int → Int) (hok : zLok q9) (hlc : zLD s0 q9) (hK : ∀ t : Int, 0 ≤ t → t < 100 → s0 4 t = K9 t) (hlm : ∀ i : Int, 0 ≤ i → i < 4 → s0 129 i = l9 i ∧ (l9 i = -1 ∨ (0 ≤ l9 i ∧ l9 i < 100))) (hw : zWc s0 d n9 w9) (hY : zYq (zYc s0 d)) (hok4 : zok (zY4 (zYc s0 d))) (hn : 0 ≤ n) (p0 : IC s0) (p1 : IS s0) (p2 : IQ s0) : Met l yX0_goOn (xws yX0_goOn cX0_goOn 8 (some .int)) { frames := 5, cells := 0, slots := 0, locals := 128 } (xP [.ref (h0 + 128), .ref (h0 + d), .int (xJ n), .int (xJ a)] D g T h0 s0) (xQi D g h0 (fun r τ => xFr (fun k => (7 ≤ k ∧ k < 107) ∨ k = 107 ∨ k = 115 ∨ k = 116 ∨ k = 130 ∨ k = 131 ∨ k = 132 ∨ k = 133 ∨ k = 134 ∨ k = 135 ∨ k = d ∨ k = d + 1 ∨ k = d + 5 ∨ k = d + 6 ∨ k = d + 7 ∨ k = d + 8 ∨ k = d + 9) s0 τ ∧ (((IC τ) ∧ (IS τ) ∧ (IQ τ) ∧ True) ∧ (zYc τ d = zmn K9 q9 l9 n9 w9 a n.toNat (zYc s0 d) ∧ zYq (zYc τ d) ∧ zok (zY4 (zYc τ d)) ∧ r = zSm (zYc s0 d) - zSm (zYc τ d))))) 0 0 (xA h0) := by
  refine x_met hσ (by decide) (Nat.le_of_ble_eq_true rfl) ?_
  intro p e s m args below meth c hx hb hr hml hown hT hlk hnm hE hW ls hl
  have hl : lv_has ls 8 [(0, .ref (h0 + 128)), (1, .ref (h0 + d)), (2, .int (xJ n)), (3, .int (xJ a))] := hl
  obtain ⟨Q, eQ⟩ : ∃ Q, Q = MQ below (xQi D g h0 (fun r τ => xFr (fun k => (7 ≤ k ∧ k < 107) ∨ k = 107 ∨ k = 115 ∨ k = 116 ∨ k = 130 ∨ k = 131 ∨ k = 132 ∨ k = 133 ∨ k = 134 ∨ k = 135 ∨ k = d ∨ k = d + 1 ∨ k = d + 5 ∨ k = d + 6 ∨ k = d + 7 ∨ k = d + 8 ∨ k = d + 9) s0 τ ∧ (((IC τ) ∧ (IS τ) ∧ (IQ τ) ∧ True) ∧ (zYc τ d = zmn K9 q9 l9 n9 w9 a n.toNat (zYc s0 d) ∧ zYq (zYc τ d) ∧ zok (zY4 (zYc τ d)) ∧ r = zSm (zYc s0 d) - zSm (zYc τ d))))) args s 0 0 (xA h0) := ⟨_, rfl⟩
  rw [← eQ]
  generalize hHe : ([] : List Loc) = locs at hW ⊢
  obtain ⟨H, eH⟩ : ∃ H, H = s.heap := ⟨_, rfl⟩
  rw [← eH] at hW ⊢
  have hF : xFr (fun k => (7 ≤ k ∧ k < 107) ∨ k = 107 ∨ k = 115 ∨ k = 116 ∨ k = 130 ∨ k = 131 ∨ k = 132 ∨ k = 133 ∨ k = 134 ∨ k = 135 ∨ k = d ∨ k = d + 1 ∨ k = d + 5 ∨ k = d + 6 ∨ k = d + 7 ∨ k = d + 8 ∨ k = d + 9) s0 s0 := xFr.rf
  have hbd : (136 ≤ d ∧ d < 209) ∧ (d ≤ 146 ∨ 158 ≤ d) := by unfold xDay at hd; omega
  have k1_1 : s0 1 1 = s0 1 1 := rfl
  refine x_aload_n hx hb hl 1 rfl dX0_goOn_0 rfl ?_
  refine x_goi (x_runVN (As := []) hx hb hml hown hT hE hW hl.1 (Or.inl (by omega)) (so_day0 h0 g hd _) rfl cf_X2_owedByAll wq765 wq35 wn763 (c_X2_owedByAllF l D g T h0 s0 hW.2.1 d hd (fun f f1 f2 => (hY f f1 f2).2.1) p0) ⟨rfl, rfl, ⟨by decide, by decide⟩, ⟨by decide, by decide⟩⟩ rfl rfl (Nat.le_of_ble_eq_true rfl) dX0_goOn_1) hW (fun x1 s2 H locs rx1 hp3 hW => ?_)
  obtain ⟨es2, hp3⟩ := hp3
  subst es2
  have ghp3 := hp3
  have H1 := ghp3
  have B1 := zSm_r hY
  refine lv_istore (lv' := [(4, .int (xJ x1)), (0, .ref (h0 + 128)), (1, .ref (h0 + d)), (2, .int (xJ n)), (3, .int (xJ a))]) hx hb dX0_goOn_4 hl (by decide) rfl (fun ls hl => ?_)
  refine x_iconst hx hb dX0_goOn_6 ?_
  refine lv_istore (lv' := [(5, .int (xJ 0)), (4, .int (xJ x1)), (0, .ref (h0 + 128)), (1, .ref (h0 + d)), (2, .int (xJ n)), (3, .int (xJ a))]) hx hb dX0_goOn_7 hl (by decide) rfl (fun ls hl => ?_)
  have L9 : ∀ (fu : Nat) (i5_9 : Int) (s_9 : xS) (H : Heap) (locs : List Loc) (ls : Array Slot), (xR i5_9) → (xFr (fun k => (7 ≤ k ∧ k < 107) ∨ k = 107 ∨ k = 115 ∨ k = 116 ∨ k = 130 ∨ k = 131 ∨ k = 132 ∨ k = 133 ∨ k = 134 ∨ k = 135 ∨ k = d ∨ k = d + 1 ∨ k = d + 5 ∨ k = d + 6 ∨ k = d + 7 ∨ k = d + 8 ∨ k = d + 9) s0 s_9) → (IC s_9) → (IS s_9) → (IQ s_9) → (s_9 1 1 = s0 1 1) → (0 ≤ i5_9 ∧ i5_9 ≤ n) → (zYc s_9 d = zmn K9 q9 l9 n9 w9 a (i5_9).toNat (zYc s0 d)) → (zYq (zYc s_9 d)) → (zok (zY4 (zYc s_9 d))) → (s_9 d 7 = s0 d 7 + i5_9) → (n - i5_9).toNat < fu → xW D g h0 s H locs s_9 → lv_has ls 8 [(0, .ref (h0 + 128)), (1, .ref (h0 + d)), (2, .int (xJ n)), (3, .int (xJ a)), (4, .int (xJ x1)), (5, .int (xJ i5_9))] → W p l e { frames := 5, cells := 0, slots := 0, locals := 128 } s m args below meth c H locs 0 0 Q (F0 m 9 ls []) := by
    intro fu
    induction fu with
    | zero => intro i5_9 s_9 H locs ls ri5_9 hF_9 q9_0 q9_1 q9_2 q9_3 v9_0 v9_1 v9_2 v9_3 v9_4 hm; exact absurd hm (Nat.not_lt_zero _)
    | succ fu ih9 =>
      intro i5_9 s_9 H locs ls ri5_9 hF_9 q9_0 q9_1 q9_2 q9_3 v9_0 v9_1 v9_2 v9_3 v9_4 hm hW hl
      have hm_9 := fun (_ : Unit) => hm
      clear hm
      refine x_iload hx hb hl 5 rfl dX0_goOn_9 ?_
      refine x_iload_n hx hb hl 2 rfl dX0_goOn_11 rfl ?_
      refine x_icmp_ge (tgt := 140) hx hb ri5_9 rn dX0_goOn_12 (by decide) (fun c4 => ?_) (fun c4 => ?_)
      · skip
        refine x_iload hx hb hl 4 rfl dX0_goOn_140 ?_
        refine x_aload_n hx hb hl 1 rfl dX0_goOn_142 rfl ?_
        refine x_goi (x_runVN (As := []) hx hb hml hown hT hE hW hl.1 (Or.inl (by omega)) (so_day0 h0 g hd _) rfl cf_X2_owedByAll wq765 wq35 wn763 (c_X2_owedByAllF l D g T h0 s_9 hW.2.1 d hd (fun f f1 f2 => (v9_2 f f1 f2).2.1) q9_0) ⟨rfl, rfl, ⟨by decide, by decide⟩, ⟨by decide, by decide⟩⟩ rfl rfl (Nat.le_of_ble_eq_true rfl) dX0_goOn_143) hW (fun x5 s6 H locs rx5 hp7 hW => ?_)
        obtain ⟨es6, hp7⟩ := hp7
        subst es6
        have ghp7 := hp7
        have H143 := ghp7
        have B143 := zSm_r v9_2
        refine x_isub hx hb dX0_goOn_146 ?_
        rw [eQ]
        exact x_iret hx hb hr hlk hW (by omega) ⟨hF_9, ⟨q9_0, q9_1, q9_2, trivial⟩, ⟨by
            first
              | (rw [v9_1, show (i5_9).toNat = n.toNat from by omega])
              | (rw [show n.toNat = (i5_9).toNat + (n - i5_9).toNat from by omega, zmn_stop (by rw [← v9_1, zYc_44]; omega)]; exact v9_1), v9_2, v9_3, by omega⟩⟩ dX0_goOn_147
      refine x_aload_n hx hb hl 1 rfl dX0_goOn_15 rfl ?_
      refine x_getN (j := 7) (v := .int (xJ (s_9 d 7))) hx hb hown hT hE hW cls_X2 (Or.inl (by omega)) (so_day0 h0 g hd _) (by decide) rfl wn402 dX0_goOn_16 ?_
      refine x_rd hW (fun x8 ex8 rx8 => ?_)
      have bx8 : 0 ≤ x8 ∧ x8 ≤ 9999 := by rw [ex8]; exact IC.m q9_0 hd
      have q10 : s_9 d 7 = x8 := ex8.symm
      refine x_sipush hx hb dX0_goOn_19 (by decide) ?_
      refine x_icmp_ge (tgt := 140) hx hb rx8 (by decide) dX0_goOn_22 (by decide) (fun c11 => ?_) (fun c11 => ?_)
      · skip
        refine x_iload hx hb hl 4 rfl dX0_goOn_140 ?_
        refine x_aload_n hx hb hl 1 rfl dX0_goOn_142 rfl ?_
        refine x_goi (x_runVN (As := []) hx hb hml hown hT hE hW hl.1 (Or.inl (by omega)) (so_day0 h0 g hd _) rfl cf_X2_owedByAll wq765 wq35 wn763 (c_X2_owedByAllF l D g T h0 s_9 hW.2.1 d hd (fun f f1 f2 => (v9_2 f f1 f2).2.1) q9_0) ⟨rfl, rfl, ⟨by decide, by decide⟩, ⟨by decide, by decide⟩⟩ rfl rfl (Nat.le_of_ble_eq_true rfl) dX0_goOn_143) hW (fun x12 s13 H locs rx12 hp14 hW => ?_)
        obtain ⟨es13, hp14⟩ := hp14
        subst es13
        have ghp14 := hp14
        have H143 := ghp14
        have B143 := zSm_r v9_2
        refine x_isub hx hb dX0_goOn_146 ?_
        rw [eQ]
        exact x_iret hx hb hr hlk hW (by omega) ⟨hF_9, ⟨q9_0, q9_1, q9_2, trivial⟩, ⟨by
            first
              | (rw [v9_1, show (i5_9).toNat = n.toNat from by omega])
              | (rw [show n.toNat = (i5_9).toNat + (n - i5_9).toNat from by omega, zmn_stop (by rw [← v9_1, zYc_44]; omega)]; exact v9_1), v9_2, v9_3, by omega⟩⟩ dX0_goOn_147
      refine x_aload_n hx hb hl 0 rfl dX0_goOn_25 rfl ?_
      refine x_aload_n hx hb hl 1 rfl dX0_goOn_26 rfl ?_
      refine x_gov (x_runV (As := [.ref (h0 + d)]) hx hb hml hown hT hE hW hl.1 (Or.inl (by decide)) (so_128 h0 g _) rfl cf_X0_judgesStep wq769 wq36 wq767 (c_X0_judgesStepJ l D g T h0 s_9 hW.2.1 d hd K9 n9 w9 (by first | exact hK | exact fun t t1 t2 => by rw [hF_9 4 (by first | decide | omega)]; exact hK t t1 t2) (by first | exact hw | exact hw.f (hF_9 _ (by omega)) (fun k hk => hF_9 k (by first | omega | (unfold xDay at hd; omega)))) (by rw [zt_Y]; exact v9_3) q9_0) ⟨rfl, rfl, ⟨by decide, by decide⟩, ⟨by decide, by decide⟩⟩ rfl rfl (Nat.le_of_ble_eq_true rfl) dX0_goOn_27) hW (fun s16 H locs hp17 hW => ?_)
      obtain ⟨fs16, hp17⟩ := hp17
      have hF18 := hF_9.call fs16 (fun k h => by omega)
      have q19 : IS s16 := IS_f (fun k hk => fs16 k (by unfold suIS at hk; omega)) q9_1
      have q20 : IQ s16 := IQ_f (fun k hk => fs16 k (by unfold suIQ at hk; omega)) q9_2
      have q21 : s16 1 1 = s0 1 1 := (congrFun (fs16 _ (by omega)) _).trans q9_3
      have q22 : s16 d 7 = x8 := (congrFun (fs16 _ (by omega)) _).trans q10
      have ghp17 := hp17.2
      have H27 := ghp17
      rw [zt_Y (σ := s_9)] at H27
      have Y27 : zYc s16 d = zm1 K9 n9 w9 (zYc s_9 d) := zYc_js H27 (fs16 d (by omega)) (fun o ho => fs16 (d + o) (by omega))
      refine x_aload_n hx hb hl 0 rfl dX0_goOn_30 rfl ?_
      refine x_get (j := 1) (v := .ref (h0 + 109)) hx hb hown hT hE hW cls_X0 (Or.inl (by decide)) (so_128 h0 g _) (by decide) rfl wq354 dX0_goOn_31 ?_
      refine x_aload_n hx hb hl 1 rfl dX0_goOn_34 rfl ?_
      refine x_getN (j := 7) (v := .int (xJ (s16 d 7))) hx hb hown hT hE hW cls_X2 (Or.inl (by omega)) (so_day0 h0 g hd _) (by decide) rfl wn402 dX0_goOn_35 ?_
      refine x_rd hW (fun x23 ex23 rx23 => ?_)
      have bx23 : 0 ≤ x23 ∧ x23 ≤ 9999 := by rw [ex23]; exact IC.m hp17.1.1 hd
      have fx23 : x23 = x8 := ex23.trans q22
      refine x_gov (x_runVN (As := [.int (xJ x23)]) hx hb hml hown hT hE hW hl.1 (Or.inl (by decide)) (so_109 h0 g _) rfl cf_X4_tellMinute wq793 wq40 wn791 (c_X4_tellMinuteF l D g T h0 s16 hW.2.1 x23 rx23 (by omega) hp17.1.1) ⟨rfl, rfl, ⟨by decide, by decide⟩, ⟨by decide, by decide⟩⟩ rfl rfl (Nat.le_of_ble_eq_true rfl) dX0_goOn_38) hW (fun s25 H locs hp26 hW => ?_)
      obtain ⟨fs25, hp26⟩ := hp26
      have hF27 := hF18.call fs25 (fun k h => by omega)
      have q28 : IS s25 := IS_f (fun k hk => fs25 k (by unfold suIS at hk; omega)) q19
      have q29 : IQ s25 := IQ_f (fun k hk => fs25 k (by unfold suIQ at hk; omega)) q20
      have q30 : s25 1 1 = s0 1 1 := (congrFun (fs25 _ (by omega)) _).trans q21
      have q31 : s25 d 7 = x8 := (congrFun (fs25 _ (by omega)) _).trans q22
      have ghp26 := hp26.2
      have H38 := ghp26
      have Y38 : zYc s25 d = zm1 K9 n9 w9 (zYc s_9 d) := (zYc_f (fun o ho => fs25 (d + o) (by omega))).trans Y27
      refine x_aload_n hx hb hl 1 rfl dX0_goOn_41 rfl ?_
      refine x_goi (x_runVN (As := []) hx hb hml hown hT hE hW hl.1 (Or.inl (by omega)) (so_day0 h0 g hd _) rfl cf_X2_draw wq797 wq41 wn795 (c_X2_drawF l D g T h0 s25 hW.2.1 d hd hp26.1.1) ⟨rfl, rfl, ⟨by decide, by decide⟩, ⟨by decide, by decide⟩⟩ rfl rfl (Nat.le_of_ble_eq_true rfl) dX0_goOn_42) hW (fun x32 s33 H locs rx32 hp34 hW => ?_)
      obtain ⟨fs33, hp34⟩ := hp34
      have hF35 := hF27.call fs33 (fun k h => by omega)
      have q36 : IS s33 := IS_f (fun k hk => fs33 k (by unfold suIS at hk; omega)) q28
      have q37 : IQ s33 := IQ_f (fun k hk => fs33 k (by unfold suIQ at hk; omega)) q29
      have q38 : s33 1 1 = s0 1 1 := (congrFun (fs33 _ (by omega)) _).trans q30
      have ghp34 := hp34.2
      have H42 := ghp34
      rw [Y38, show zm1 K9 n9 w9 (zYc s_9 d) 45 = zYc s_9 d 45 from zm1_o (by omega)] at H42
      have T42 : ∀ k : Int, 0 ≤ k → k < 7 → s33 115 k = zf0 (zYc s_9 d 44) k := fun k k1 k2 => by
        rw [fs33 115 (by first | decide | omega), H38 k k1 k2, zYc_44]
        congr 1
        omega
      have Y42 : zYc s33 d = zm2 K9 n9 w9 (zYc s_9 d) := H42.1
      refine x_aload_n hx hb hl 0 rfl dX0_goOn_45 rfl ?_
      refine x_get (j := 1) (v := .ref (h0 + 109)) hx hb hown hT hE hW cls_X0 (Or.inl (by decide)) (so_128 h0 g _) (by decide) rfl wq354 dX0_goOn_46 ?_
      refine x_bipush hx hb dX0_goOn_49 (by decide) ?_
      refine x_bipush hx hb dX0_goOn_51 (by decide) ?_
      refine x_goi (x_runVN (As := [.int (xJ 99), .int (xJ 10)]) hx hb hml hown hT hE hW hl.1 (Or.inl (by decide)) (so_109 h0 g _) rfl cf_X4_worthOf wq802 wq42 wn800 (c_X4_worthOfF l D g T h0 s33 hW.2.1 99 (by decide) 10 (by decide) q9 (zf0 (zYc s_9 d 44)) (hok) (by first | exact hlc | exact hlc.f (fun k hk => hF35 k (by omega))) (T42) (by decide) (by decide) hp34.1.1) ⟨rfl, rfl, ⟨by decide, by decide⟩, ⟨by decide, by decide⟩⟩ rfl rfl (Nat.le_of_ble_eq_true rfl) dX0_goOn_53) hW (fun x39 s40 H locs rx39 hp41 hW => ?_)
      obtain ⟨fs40, hp41⟩ := hp41
      have hF42 := hF35.call fs40 (fun k h => by omega)
      have q43 : IS s40 := IS_f (fun k hk => fs40 k (by unfold suIS at hk; omega)) q36
      have q44 : IQ s40 := IQ_f (fun k hk => fs40 k (by unfold suIQ at hk; omega)) q37
      have q45 : s40 1 1 = s0 1 1 := (congrFun (fs40 _ (by omega)) _).trans q38
      have q46 : s40 d 7 = x8 := (congrFun (fs40 _ (by omega)) _).trans (hp34.1.2.1.trans q31)
      have ghp41 := hp41.2
      have H53 := ghp41
      have Y53 : zYc s40 d = zm2 K9 n9 w9 (zYc s_9 d) := (zYc_f (fun o ho => fs40 (d + o) (by omega))).trans Y42
      have C53 : (x32 < x39 → zcl q9 (zYc s_9 d) = 1) ∧ (¬ x32 < x39 → zcl q9 (zYc s_9 d) = 0) := ⟨fun h => zcl_y (by rw [← H42.2, ← H53]; exact h), fun h => zcl_n (by rw [← H42.2, ← H53]; exact h)⟩
      have J64 : ∀ (t0_64 : Int) (ls : Array Slot), (xR t0_64) → (t0_64 = zcl q9 (zYc s_9 d)) → lv_has ls 8 [(0, .ref (h0 + 128)), (1, .ref (h0 + d)), (2, .int (xJ n)), (3, .int (xJ a)), (4, .int (xJ x1)), (5, .int (xJ i5_9))] → W p l e { frames := 5, cells := 0, slots := 0, locals := 128 } s m args below meth c H locs 0 0 Q (F0 m 64 ls [.int (xJ t0_64)]) := by
        intro t0_64 ls rt0_64 v64_0  hl
        refine lv_istore (lv' := [(6, .int (xJ t0_64)), (0, .ref (h0 + 128)), (1, .ref (h0 + d)), (2, .int (xJ n)), (3, .int (xJ a)), (4, .int (xJ x1)), (5, .int (xJ i5_9))]) hx hb dX0_goOn_64 hl (by decide) rfl (fun ls hl => ?_)
        refine x_iload hx hb hl 0 rfl dX0_goOn_66 ?_
        have J81 : ∀ (s_81 : xS) (H : Heap) (locs : List Loc) (ls : Array Slot), (xFr (fun k => (7 ≤ k ∧ k < 107) ∨ k = 107 ∨ k = 115 ∨ k = 116 ∨ k = 130 ∨ k = 131 ∨ k = 132 ∨ k = 133 ∨ k = 134 ∨ k = 135 ∨ k = d ∨ k = d + 1 ∨ k = d + 5 ∨ k = d + 6 ∨ k = d + 7 ∨ k = d + 8 ∨ k = d + 9) s0 s_81) → (IS s_81) → (IQ s_81) → (s_81 1 1 = s0 1 1) → (s_81 d 7 = x8) → (IC s_81) → (zYc s_81 d = zm3 K9 q9 n9 w9 (zYc s_9 d)) → xW D g h0 s H locs s_81 → lv_has ls 8 [(0, .ref (h0 + 128)), (1, .ref (h0 + d)), (2, .int (xJ n)), (3, .int (xJ a)), (4, .int (xJ x1)), (5, .int (xJ i5_9)), (6, .int (xJ t0_64))] → W p l e { frames := 5, cells := 0, slots := 0, locals := 128 } s m args below meth c H locs 0 0 Q (F0 m 81 ls []) := by
          intro s_81 H locs ls hF_81 q81_0 q81_1 q81_2 q81_3 q81_4 v81_0 hW hl
          refine x_aload_n hx hb hl 0 rfl dX0_goOn_81 rfl ?_
          have m81 : s_81 d 7 = zYc s_9 d 44 := by rw [zYc_44]; omega
          refine x_get (j := 1) (v := .ref (h0 + 109)) hx hb hown hT hE hW cls_X0 (Or.inl (by decide)) (so_128 h0 g _) (by decide) rfl wq354 dX0_goOn_82 ?_
          refine x_aload_n hx hb hl 1 rfl dX0_goOn_85 rfl ?_
          refine x_getN (j := 7) (v := .int (xJ (s_81 d 7))) hx hb hown hT hE hW cls_X2 (Or.inl (by omega)) (so_day0 h0 g hd _) (by decide) rfl wn402 dX0_goOn_86 ?_
          refine x_rd hW (fun x47 ex47 rx47 => ?_)
          have bx47 : 0 ≤ x47 ∧ x47 ≤ 9999 := by rw [ex47]; exact IC.m q81_4 hd
          have fx47 : x47 = x8 := ex47.trans q81_3
          have V86 := ex47
          refine x_goi (x_runVN (As := [.int (xJ x47)]) hx hb hml hown hT hE hW hl.1 (Or.inl (by decide)) (so_109 h0 g _) rfl cf_X4_isNight wq819 wq45 wn817 (c_X4_isNightF l D g T h0 s_81 hW.2.1 x47 rx47 q9 (hok) (by first | exact hlc | exact hlc.f (fun k hk => hF_81 k (by omega))) (by omega) q81_4) ⟨rfl, rfl, ⟨by decide, by decide⟩, ⟨by decide, by decide⟩⟩ rfl rfl (Nat.le_of_ble_eq_true rfl) dX0_goOn_89) hW (fun x48 s49 H locs rx48 hp50 hW => ?_)
          obtain ⟨fs49, hp50⟩ := hp50
          have hF51 := hF_81.call fs49 (fun k h => by omega)
          have q52 : IS s49 := IS_f (fun k hk => fs49 k (by unfold suIS at hk; omega)) q81_0
          have q53 : IQ s49 := IQ_f (fun k hk => fs49 k (by unfold suIQ at hk; omega)) q81_1
          have q54 : s49 1 1 = s0 1 1 := (congrFun (fs49 _ (by omega)) _).trans q81_2
          have q55 : s49 d 7 = x8 := (congrFun (fs49 _ (by omega)) _).trans q81_3
          have ghp50 := hp50.2
          have H89 := ghp50
          have Y89 : zYc s49 d = zm3 K9 q9 n9 w9 (zYc s_9 d) := (zYc_f (fun o ho => fs49 (d + o) (by omega))).trans v81_0
          have N89 : x48 = zni q9 (zYc s_9 d 44) := by rw [H89, V86, m81]
          have E89 : s49 d 7 = zYc s_9 d 44 := by rw [fs49 d (by omega)]; exact m81
          have hj89 : ∀ j : Int, 0 ≤ j → j < 2 → s49 (d + 1) j = -1 ∨ (0 ≤ s49 (d + 1) j ∧ s49 (d + 1) j < 100) := fun j j1 j2 => by rw [← zYc_J (σ := s49) (d := d) ⟨j1, j2⟩, Y89]; exact zok_j (zm3_ok v9_3) j j1 j2
          have J89 : s49 (d + 1) 0 = zm3 K9 q9 n9 w9 (zYc s_9 d) 0 ∧ s49 (d + 1) 1 = zm3 K9 q9 n9 w9 (zYc s_9 d) 1 := by rw [← Y89, zYc_J (by omega), zYc_J (by omega)]; exact ⟨rfl, rfl⟩
          refine lv_istore (lv' := [(7, .int (xJ x48)), (0, .ref (h0 + 128)), (1, .ref (h0 + d)), (2, .int (xJ n)), (3, .int (xJ a)), (4, .int (xJ x1)), (5, .int (xJ i5_9)), (6, .int (xJ t0_64))]) hx hb dX0_goOn_92 hl (by decide) rfl (fun ls hl => ?_)
          refine x_aload_n hx hb hl 1 rfl dX0_goOn_94 rfl ?_
          refine x_aload_n hx hb hl 2 rfl dX0_goOn_95 rfl ?_
          refine x_iload hx hb hl 7 rfl dX0_goOn_96 ?_
          have J106 : ∀ (t0_106 : Int) (ls : Array Slot), (xR t0_106) → (t0_106 = (if zcl q9 (zYc s_9 d) ≠ 0 then 0 else 1)) → lv_has ls 8 [(0, .ref (h0 + 128)), (1, .ref (h0 + d)), (2, .int (xJ n)), (3, .int (xJ a)), (4, .int (xJ x1)), (5, .int (xJ i5_9)), (7, .int (xJ x48))] → W p l e { frames := 5, cells := 0, slots := 0, locals := 128 } s m args below meth c H locs 0 0 Q (F0 m 106 ls [.int (xJ t0_106), .ref (h0 + d), .ref (h0 + 128)]) := by
            intro t0_106 ls rt0_106 v106_0  hl
            refine x_iload hx hb hl 6 rfl dX0_goOn_106 ?_
            refine x_gov (x_runV (As := [.ref (h0 + d), .int (xJ t0_106), .int (xJ x48)]) hx hb hml hown hT hE hW hl.1 (Or.inl (by decide)) (so_128 h0 g _) rfl cf_X0_cast wq824 wq46 wq822 (c_X0_castF l D g T h0 s49 hW.2.1 d hd t0_106 rt0_106 x48 rx48 q9 K9 l9 (hok) (by first | exact hlc | exact hlc.f (fun k hk => hF51 k (by omega))) (by first | exact hK | exact fun t t1 t2 => by rw [hF51 4 (by first | decide | omega)]; exact hK t t1 t2) (by first | exact hlm | exact fun i i1 i2 => by rw [hF51 129 (by first | decide | omega)]; exact hlm i i1 i2) (hj89) hp50.1.1 q52) ⟨rfl, rfl, ⟨by decide, by decide⟩, ⟨by decide, by decide⟩⟩ rfl rfl (Nat.le_of_ble_eq_true rfl) dX0_goOn_108) hW (fun s57 H locs hp58 hW => ?_)
            obtain ⟨fs57, hp58⟩ := hp58
            have hF59 := hF51.call fs57 (fun k h => by omega)
            have q60 : IQ s57 := IQ_f (fun k hk => fs57 k (by unfold suIQ at hk; omega)) q53
            have q61 : s57 1 1 = s0 1 1 := (congrFun (fs57 _ (by omega)) _).trans q54
            have q62 : s57 d 7 = x8 := (congrFun (fs57 _ (by omega)) _).trans q55
            have ghp58 := hp58.2
            have H108 := ghp58
            have Y108 : zYc s57 d = zm3 K9 q9 n9 w9 (zYc s_9 d) := (zYc_f (fun o ho => fs57 (d + o) (by omega))).trans Y89
            have hr108 : ∀ f : Int, 0 ≤ f → f < 10 → s57 (d + 6) f = -1 ∨ (0 ≤ s57 (d + 6) f ∧ s57 (d + 6) f < 100) := fun f f1 f2 => by rw [← zYc_F (σ := s57) (d := d) ⟨f1, f2⟩, Y108]; exact (zm3_q v9_2 f f1 f2).1
            have L108 : ∀ t : Int, 0 ≤ t → t < 100 → s57 131 t = zmL K9 q9 l9 n9 w9 (zYc s_9 d) t := fun t t1 t2 => by
              rw [H108.2.2 t t1 t2, E89, zLy_J (J := zm3 K9 q9 n9 w9 (zYc s_9 d)) J89.1 J89.2]
              unfold zmL
              rw [← N89]
              exact zLy_o (by rw [v106_0])
            refine x_aload_n hx hb hl 0 rfl dX0_goOn_111 rfl ?_
            refine x_aload_n hx hb hl 1 rfl dX0_goOn_112 rfl ?_
            refine x_aload_n hx hb hl 0 rfl dX0_goOn_113 rfl ?_
            refine x_aload_n hx hb hl 1 rfl dX0_goOn_114 rfl ?_
            refine x_iload_n hx hb hl 3 rfl dX0_goOn_115 rfl ?_
            refine x_goi (x_runV (As := [.ref (h0 + d), .int (xJ a)]) hx hb hml hown hT hE hW hl.1 (Or.inl (by decide)) (so_128 h0 g _) rfl cf_X0_lineUp wq854 wq51 wq852 (c_X0_lineUpF l D g T h0 s57 hW.2.1 d hd a ra q9 K9 (hok) (by first | exact hlc | exact hlc.f (fun k hk => hF59 k (by omega))) (by first | exact hK | exact fun t t1 t2 => by rw [hF59 4 (by first | decide | omega)]; exact hK t t1 t2) (hr108) hp58.1.1) ⟨rfl, rfl, ⟨by decide, by decide⟩, ⟨by decide, by decide⟩⟩ rfl rfl (Nat.le_of_ble_eq_true rfl) dX0_goOn_116) hW (fun x63 s64 H locs rx63 hp65 hW => ?_)
            obtain ⟨fs64, hp65⟩ := hp65
            have hF66 := hF59.call fs64 (fun k h => by omega)
            have q67 : IQ s64 := IQ_f (fun k hk => fs64 k (by unfold suIQ at hk; omega)) q60
            have q68 : s64 1 1 = s0 1 1 := (congrFun (fs64 _ (by omega)) _).trans q61
            have q69 : s64 d 7 = x8 := (congrFun (fs64 _ (by omega)) _).trans q62
            have q70 : IS s64 := IS_f (fun k hk => fs64 k (by unfold suIS at hk; omega)) hp58.1.2.1
            have ghp65 := hp65.2
            have H116 := ghp65
            rw [Y108] at H116
            have Y116 : zYc s64 d = zm3 K9 q9 n9 w9 (zYc s_9 d) := (zYc_f (fun o ho => fs64 (d + o) (by omega))).trans Y108
            have F116 := fs64
            have B116 : ∀ t : Int, 0 ≤ t → t < 100 → 0 ≤ s64 131 t ∧ s64 131 t ≤ 1000 := fun t t1 t2 => by rw [F116 131 (by omega), L108 t t1 t2]; exact zmL_r t
            have L116 : ∀ k : Int, 0 ≤ k → k < x63 → (0 ≤ s64 134 k ∧ s64 134 k < 10) ∧ s64 (d + 6) (s64 134 k) ≠ -1 := fun k k1 k2 => by
              have m := zlu_mem (x := s64 134 k) (by rw [← H116.2]; exact zls_mem k1 (by omega))
              have b : 0 ≤ s64 134 k ∧ s64 134 k < 10 := ⟨m.1, m.2.1⟩
              refine ⟨b, ?_⟩
              rw [← zYc_F (σ := s64) (d := d) b, Y116]
              exact m.2.2.1
            refine x_iload hx hb hl 6 rfl dX0_goOn_119 ?_
            refine x_gov (x_runV (As := [.ref (h0 + d), .int (xJ x63), .int (xJ x48)]) hx hb hml hown hT hE hW hl.1 (Or.inl (by decide)) (so_128 h0 g _) rfl cf_X0_felonsGo wq875 wq56 wq873 (c_X0_felonsGoF l D g T h0 s64 hW.2.1 d hd x63 rx63 x48 rx48 q9 K9 (hok) (by first | exact hlc | exact hlc.f (fun k hk => hF66 k (by omega))) (by first | exact hK | exact fun t t1 t2 => by rw [hF66 4 (by first | decide | omega)]; exact hK t t1 t2) (by rw [Y116]; exact zm3_q v9_2) (H116.1) (L116) (B116) hp65.1.1 q70 q67) ⟨rfl, rfl, ⟨by decide, by decide⟩, ⟨by decide, by decide⟩⟩ rfl rfl (Nat.le_of_ble_eq_true rfl) dX0_goOn_121) hW (fun s72 H locs hp73 hW => ?_)
            obtain ⟨fs72, hp73⟩ := hp73
            have hF74 := hF66.call fs72 (fun k h => by omega)
            have q75 : s72 1 1 = s0 1 1 := (congrFun (fs72 _ (by omega)) _).trans q68
            have ghp73 := hp73.2
            have H121 := ghp73
            have G121 : zYc s72 d = zm4 K9 q9 l9 n9 w9 a (zYc s_9 d) := by
              have z : zYc s72 d = _ := congrArg Prod.fst H121.1
              rw [H116.2, Y116, N89] at z
              exact z.trans (zgo_cg (L := zmL K9 q9 l9 n9 w9 (zYc s_9 d)) (T := fun _ => 0) (fun t t1 t2 => by rw [F116 131 (by omega)]; exact L108 t t1 t2) (fun t t1 t2 => by rw [F116 133 (by omega)]; exact H108.2.1 t t1 t2) _).1
            refine x_aload_n hx hb hl 1 rfl dX0_goOn_124 rfl ?_
            refine lv_dup hx hb dX0_goOn_125 rfl ?_
            refine x_getN (j := 7) (v := .int (xJ (s72 d 7))) hx hb hown hT hE hW cls_X2 (Or.inl (by omega)) (so_day0 h0 g hd _) (by decide) rfl wn402 dX0_goOn_126 ?_
            refine x_rd hW (fun x76 ex76 rx76 => ?_)
            have bx76 : 0 ≤ x76 ∧ x76 ≤ 9999 := by rw [ex76]; exact IC.m hp73.1.1 hd
            have fx76 : x76 = x8 := ex76.trans (hp73.1.2.2.2.1.trans q69)
            refine x_iconst hx hb dX0_goOn_129 ?_
            refine x_iadd hx hb dX0_goOn_130 ?_
            refine x_putN (j := 7) hx hb hown hT hE hW cls_X2 (by omega) (fun σ => so_day0 h0 g hd σ) (by decide) (st_X2_7 h0 s72 d (x76 + 1)) (ln_X2_7 h0 _ _) wn402 rfl rfl rfl (by omega) dX0_goOn_131 (fun H locs s77 es77 hW => ?_)
            have q78 : s77 1 1 = s0 1 1 := (show s77 1 1 = s72 1 1 from by rw [es77, xU_k _ _ _ (by first | decide | omega)]).trans q75
            have q79 : IC s77 := by rw [es77]; exact IC_d hd hp73.1.1 (by omega)
            have q80 : IS s77 := by rw [es77]; exact IS_o (by unfold suIS; first | decide | omega) hp73.1.2.1
            have q81 : IQ s77 := by rw [es77]; exact IQ_o (by unfold suIQ; first | decide | omega) hp73.1.2.2.1
            have q82 : s77 d 7 = (x76 + 1) := by rw [es77, xU_s]
            have hF83 := hF74.put es77 (by omega)
            have E131 := es77
            have Y131 : zYc s77 d = zmi K9 q9 l9 n9 w9 a (zYc s_9 d) := by
              rw [E131, zYc_u44, G121]
              unfold zmi
              rw [zYc_44]
              congr 1
              omega
            refine x_iinc (lv' := [(5, .int (xJ (i5_9 + 1))), (0, .ref (h0 + 128)), (1, .ref (h0 + d)), (2, .int (xJ n)), (3, .int (xJ a)), (4, .int (xJ x1)), (7, .int (xJ x48))]) hx hb hl 5 rfl dX0_goOn_134 (by decide) rfl (fun ls hl => ?_)
            refine lv_goto (tgt := 9) hx hb dX0_goOn_137 (by decide) ?_
            exact ih9 (i5_9 + 1) s77 H locs ls (by omega) hF83 q79 q80 q81 q78 (by omega) (by rw [show (i5_9 + 1).toNat = i5_9.toNat + 1 from by omega, zmn_s (by rw [← v9_1, zYc_44]; omega), ← v9_1]; exact Y131) (by rw [E131, zYc_u44]; exact fun f f1 f2 => by have z := H121.2.1 f f1 f2; rw [xud_o _ _ (by omega), xud_o _ _ (by omega), xud_o _ _ (by omega), xud_o _ _ (by omega)]; exact z) (by rw [Y131]; exact zmi_ok v9_3) (by omega) (by have hm := hm_9 (); omega) hW (lv_sub hl [1, 2, 3, 4, 5, 0] rfl)
          refine x_if_ne (tgt := 105) hx hb rt0_64 dX0_goOn_98 (by decide) (fun c84 => ?_) (fun c84 => ?_)
          · skip
            refine x_iconst hx hb dX0_goOn_105 ?_
            exact J106 0 ls (by decide) (by first | (rw [if_pos (by omega)]) | (rw [if_neg (by omega)]))  (lv_sub hl [1, 2, 3, 4, 5, 6, 0] rfl)
          refine x_iconst hx hb dX0_goOn_101 ?_
          refine lv_goto (tgt := 106) hx hb dX0_goOn_102 (by decide) ?_
          exact J106 1 ls (by decide) (by first | (rw [if_pos (by omega)]) | (rw [if_neg (by omega)]))  (lv_sub hl [1, 2, 3, 4, 5, 6, 0] rfl)
        refine x_if_eq (tgt := 81) hx hb rt0_64 dX0_goOn_68 (by decide) (fun c85 => ?_) (fun c85 => ?_)
        · skip
          exact J81 s40 H locs ls hF42 q43 q44 q45 q46 hp41.1.1 (by first | exact Y78 | (rw [zm3_n (by omega)]; exact Y53)) hW (lv_sub hl [1, 2, 3, 4, 5, 6, 0] rfl)
        refine x_aload_n hx hb hl 2 rfl dX0_goOn_71 rfl ?_
        refine lv_dup hx hb dX0_goOn_72 rfl ?_
        refine x_getN (j := 10) (v := .int (xJ (s40 d 10))) hx hb hown hT hE hW cls_X2 (Or.inl (by omega)) (so_day0 h0 g hd _) (by decide) rfl wn410 dX0_goOn_73 ?_
        refine x_rd hW (fun x86 ex86 rx86 => ?_)
        have V73 : x86 = zm2 K9 n9 w9 (zYc s_9 d) 47 := by rw [ex86, ← zYc_47 (σ := s40) (d := d), Y53]
        refine x_iconst hx hb dX0_goOn_76 ?_
        refine x_iadd hx hb dX0_goOn_77 ?_
        refine x_wv (fun x87 ex87 rx87 => ?_)
        have W77 := ex87
        refine x_putN (j := 10) hx hb hown hT hE hW cls_X2 (by omega) (fun σ => so_day0 h0 g hd σ) (by decide) (st_X2_10 h0 s40 d x87) (ln_X2_10 h0 _ _) wn410 rfl rfl rfl rx87 dX0_goOn_78 (fun H locs s88 es88 hW => ?_)
        have q89 : IS s88 := by rw [es88]; exact IS_o (by unfold suIS; first | decide | omega) q43
        have q90 : IQ s88 := by rw [es88]; exact IQ_o (by unfold suIQ; first | decide | omega) q44
        have q91 : s88 1 1 = s0 1 1 := (show s88 1 1 = s40 1 1 from by rw [es88, xU_k _ _ _ (by first | decide | omega)]).trans q45
        have q92 : s88 d 7 = x8 := (show s88 d 7 = s40 d 7 from by rw [es88, xU_j _ _ (by decide)]).trans q46
        have q93 : IC s88 := by rw [es88]; exact IC_d hd hp41.1.1 (by omega)
        have hF94 := hF42.put es88 (by omega)
        have Y78 : zYc s88 d = zm3 K9 q9 n9 w9 (zYc s_9 d) := by rw [es88, zYc_u47, Y53, W77, V73]; exact (zm3_y (by omega)).symm
        exact J81 s88 H locs ls hF94 q89 q90 q91 q92 q93 (by first | exact Y78 | (rw [zm3_n (by omega)]; exact Y53)) hW (lv_sub hl [1, 2, 3, 4, 5, 6, 0] rfl)
      refine x_icmp_ge (tgt := 63) hx hb rx32 rx39 dX0_goOn_56 (by decide) (fun c95 => ?_) (fun c95 => ?_)
      · skip
        refine x_iconst hx hb dX0_goOn_63 ?_
        exact J64 0 ls (by decide) (by first | (rw [C53.1 (by omega)]) | (rw [C53.2 (by omega)]))  (lv_sub hl [0, 1, 2, 3, 4, 5] rfl)
      refine x_iconst hx hb dX0_goOn_59 ?_
      refine lv_goto (tgt := 64) hx hb dX0_goOn_60 (by decide) ?_
      exact J64 1 ls (by decide) (by first | (rw [C53.1 (by omega)]) | (rw [C53.2 (by omega)]))  (lv_sub hl [0, 1, 2, 3, 4, 5] rfl)
  exact L9 ((n - 0 : Int).toNat + 1) 0 s0 H locs ls (by decide) hF p0 p1 p2 k1_1 (by omega) (rfl) (hY) (hok4) (by omega) (Nat.lt_succ_self _) hW (lv_sub hl [2, 3, 4, 5, 1, 0] rfl)


